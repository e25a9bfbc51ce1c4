/-! fields, by the classes' tables -/
def Tc (ci : Nat) : u_T := (clsL.getD ci (RX0, TX0, 2)).2.1
def Rc (ci : Nat) : String := (clsL.getD ci (RX0, TX0, 2)).1
/-- a link to field k of class ci, of kind kd -/
def Lf (own : String) (idx ci k kd : Nat) : Prop := Cond.fieldLink own idx (Tc ci k).1 (Tc ci k).2.1 (Tc ci k).2.2.1 ∈ lw_g ∧ k < nfl ci ∧ fk ci k = kd ∧ ci < 13
def Lp (ci k : Nat) (ty : FieldType) : Prop := (Tc ci k).2.2.2 = false ∧ parseFieldDescriptor (Tc ci k).2.2.1 = some ty
def cls_ok (ci : Nat) : Prop := clsL[ci]? = some (Rc ci, Tc ci, nfl ci) ∧ (∀ w ∈ u_ws (Rc ci) (Tc ci) (nfl ci), w ∈ lw_g) ∧ (∃ ty0 : Nat → FieldType, ∀ k, k < nfl ci → parseFieldDescriptor (Tc ci k).2.2.1 = some (ty0 k)) ∧ (∀ a, a < nfl ci → ∀ b, b < nfl ci → a ≠ b → (Tc ci a).2.1 ≠ (Tc ci b).2.1)
theorem inG0 : u_ws RX0 TX0 2 = ([405, 407] : List Nat).filterMap (fun i => lw_tbl[i]?) := by decide +kernel
theorem inH0 : ∀ w ∈ u_ws RX0 TX0 2, w ∈ lw_g := by
  intro w hw
  have hg : (u_ws RX0 TX0 2).all goodWord = true := by decide +kernel
  have h1 := List.all_eq_true.mp hg w hw
  rw [inG0] at hw
  obtain ⟨i, -, hi⟩ := List.mem_filterMap.mp hw
  exact lw_mem i hi h1
theorem cls_ok0 : cls_ok 0 := ⟨rfl, inH0, ⟨tyX0, tyX0_ok⟩, nmX0⟩
theorem inG1 : u_ws RX1 TX1 3 = ([164, 166, 168] : List Nat).filterMap (fun i => lw_tbl[i]?) := by decide +kernel
theorem inH1 : ∀ w ∈ u_ws RX1 TX1 3, w ∈ lw_g := by
  intro w hw
  have hg : (u_ws RX1 TX1 3).all goodWord = true := by decide +kernel
  have h1 := List.all_eq_true.mp hg w hw
  rw [inG1] at hw
  obtain ⟨i, -, hi⟩ := List.mem_filterMap.mp hw
  exact lw_mem i hi h1
theorem cls_ok1 : cls_ok 1 := ⟨rfl, inH1, ⟨tyX1, tyX1_ok⟩, nmX1⟩
theorem inG2 : u_ws RX2 TX2 6 = ([485, 487, 489, 491, 493, 495] : List Nat).filterMap (fun i => lw_tbl[i]?) := by decide +kernel
theorem inH2 : ∀ w ∈ u_ws RX2 TX2 6, w ∈ lw_g := by
  intro w hw
  have hg : (u_ws RX2 TX2 6).all goodWord = true := by decide +kernel
  have h1 := List.all_eq_true.mp hg w hw
  rw [inG2] at hw
  obtain ⟨i, -, hi⟩ := List.mem_filterMap.mp hw
  exact lw_mem i hi h1
theorem cls_ok2 : cls_ok 2 := ⟨rfl, inH2, ⟨tyX2, tyX2_ok⟩, nmX2⟩
theorem inG3 : u_ws RX3 TX3 3 = ([420, 422, 424] : List Nat).filterMap (fun i => lw_tbl[i]?) := by decide +kernel
theorem inH3 : ∀ w ∈ u_ws RX3 TX3 3, w ∈ lw_g := by
  intro w hw
  have hg : (u_ws RX3 TX3 3).all goodWord = true := by decide +kernel
  have h1 := List.all_eq_true.mp hg w hw
  rw [inG3] at hw
  obtain ⟨i, -, hi⟩ := List.mem_filterMap.mp hw
  exact lw_mem i hi h1
theorem cls_ok3 : cls_ok 3 := ⟨rfl, inH3, ⟨tyX3, tyX3_ok⟩, nmX3⟩
theorem inG4 : u_ws RX4 TX4 5 = ([449, 451, 453, 455, 457] : List Nat).filterMap (fun i => lw_tbl[i]?) := by decide +kernel
theorem inH4 : ∀ w ∈ u_ws RX4 TX4 5, w ∈ lw_g := by
  intro w hw
  have hg : (u_ws RX4 TX4 5).all goodWord = true := by decide +kernel
  have h1 := List.all_eq_true.mp hg w hw
  rw [inG4] at hw
  obtain ⟨i, -, hi⟩ := List.mem_filterMap.mp hw
  exact lw_mem i hi h1
theorem cls_ok4 : cls_ok 4 := ⟨rfl, inH4, ⟨tyX4, tyX4_ok⟩, nmX4⟩
theorem inG5 : u_ws RX5 TX5 15 = ([365, 367, 369, 371, 373, 375, 377, 379, 381, 383, 385, 387, 389, 391, 393] : List Nat).filterMap (fun i => lw_tbl[i]?) := by decide +kernel
theorem inH5 : ∀ w ∈ u_ws RX5 TX5 15, w ∈ lw_g := by
  intro w hw
  have hg : (u_ws RX5 TX5 15).all goodWord = true := by decide +kernel
  have h1 := List.all_eq_true.mp hg w hw
  rw [inG5] at hw
  obtain ⟨i, -, hi⟩ := List.mem_filterMap.mp hw
  exact lw_mem i hi h1
theorem cls_ok5 : cls_ok 5 := ⟨rfl, inH5, ⟨tyX5, tyX5_ok⟩, nmX5⟩
theorem inG6 : u_ws RX6 TX6 2 = ([468, 470] : List Nat).filterMap (fun i => lw_tbl[i]?) := by decide +kernel
theorem inH6 : ∀ w ∈ u_ws RX6 TX6 2, w ∈ lw_g := by
  intro w hw
  have hg : (u_ws RX6 TX6 2).all goodWord = true := by decide +kernel
  have h1 := List.all_eq_true.mp hg w hw
  rw [inG6] at hw
  obtain ⟨i, -, hi⟩ := List.mem_filterMap.mp hw
  exact lw_mem i hi h1
theorem cls_ok6 : cls_ok 6 := ⟨rfl, inH6, ⟨tyX6, tyX6_ok⟩, nmX6⟩
theorem inG7 : u_ws RX7 TX7 10 = ([297, 299, 301, 303, 305, 307, 309, 311, 313, 315] : List Nat).filterMap (fun i => lw_tbl[i]?) := by decide +kernel
theorem inH7 : ∀ w ∈ u_ws RX7 TX7 10, w ∈ lw_g := by
  intro w hw
  have hg : (u_ws RX7 TX7 10).all goodWord = true := by decide +kernel
  have h1 := List.all_eq_true.mp hg w hw
  rw [inG7] at hw
  obtain ⟨i, -, hi⟩ := List.mem_filterMap.mp hw
  exact lw_mem i hi h1
theorem cls_ok7 : cls_ok 7 := ⟨rfl, inH7, ⟨tyX7, tyX7_ok⟩, nmX7⟩
theorem inG8 : u_ws RX8 TX8 3 = ([183, 185, 187] : List Nat).filterMap (fun i => lw_tbl[i]?) := by decide +kernel
theorem inH8 : ∀ w ∈ u_ws RX8 TX8 3, w ∈ lw_g := by
  intro w hw
  have hg : (u_ws RX8 TX8 3).all goodWord = true := by decide +kernel
  have h1 := List.all_eq_true.mp hg w hw
  rw [inG8] at hw
  obtain ⟨i, -, hi⟩ := List.mem_filterMap.mp hw
  exact lw_mem i hi h1
theorem cls_ok8 : cls_ok 8 := ⟨rfl, inH8, ⟨tyX8, tyX8_ok⟩, nmX8⟩
theorem inG9 : u_ws RX9 TX9 8 = ([266, 268, 270, 272, 274, 276, 278, 280] : List Nat).filterMap (fun i => lw_tbl[i]?) := by decide +kernel
theorem inH9 : ∀ w ∈ u_ws RX9 TX9 8, w ∈ lw_g := by
  intro w hw
  have hg : (u_ws RX9 TX9 8).all goodWord = true := by decide +kernel
  have h1 := List.all_eq_true.mp hg w hw
  rw [inG9] at hw
  obtain ⟨i, -, hi⟩ := List.mem_filterMap.mp hw
  exact lw_mem i hi h1
theorem cls_ok9 : cls_ok 9 := ⟨rfl, inH9, ⟨tyX9, tyX9_ok⟩, nmX9⟩
theorem inG10 : u_ws RX10 TX10 11 = ([224, 226, 228, 230, 232, 234, 236, 238, 240, 242, 244] : List Nat).filterMap (fun i => lw_tbl[i]?) := by decide +kernel
theorem inH10 : ∀ w ∈ u_ws RX10 TX10 11, w ∈ lw_g := by
  intro w hw
  have hg : (u_ws RX10 TX10 11).all goodWord = true := by decide +kernel
  have h1 := List.all_eq_true.mp hg w hw
  rw [inG10] at hw
  obtain ⟨i, -, hi⟩ := List.mem_filterMap.mp hw
  exact lw_mem i hi h1
theorem cls_ok10 : cls_ok 10 := ⟨rfl, inH10, ⟨tyX10, tyX10_ok⟩, nmX10⟩
theorem inG11 : u_ws RX11 TX11 13 = ([511, 513, 515, 517, 519, 521, 523, 525, 527, 529, 531, 533, 535] : List Nat).filterMap (fun i => lw_tbl[i]?) := by decide +kernel
theorem inH11 : ∀ w ∈ u_ws RX11 TX11 13, w ∈ lw_g := by
  intro w hw
  have hg : (u_ws RX11 TX11 13).all goodWord = true := by decide +kernel
  have h1 := List.all_eq_true.mp hg w hw
  rw [inG11] at hw
  obtain ⟨i, -, hi⟩ := List.mem_filterMap.mp hw
  exact lw_mem i hi h1
theorem cls_ok11 : cls_ok 11 := ⟨rfl, inH11, ⟨tyX11, tyX11_ok⟩, nmX11⟩
theorem inG12 : u_ws RX12 TX12 69 = ([1452, 1454, 1456, 1458, 1460, 1462, 1464, 1466, 1468, 1470, 1472, 1474, 1476, 1478, 1480, 1482, 1484, 1486, 1488, 1490, 1492, 1494, 1496, 1498, 1500, 1502, 1504, 1506, 1508, 1510, 1512, 1514, 1516, 1518, 1520, 1522, 1524, 1526, 1528, 1530, 1532, 1534, 1536, 1538, 1540, 1542, 1544, 1546, 1548, 1550, 1552, 1554, 1556, 1558, 1560, 1562, 1564, 1566, 1568, 1570, 1572, 1574, 1576, 1578, 1580, 1582, 1584, 1586, 1588] : List Nat).filterMap (fun i => lw_tbl[i]?) := by decide +kernel
theorem inH12 : ∀ w ∈ u_ws RX12 TX12 69, w ∈ lw_g := by
  intro w hw
  have hg : (u_ws RX12 TX12 69).all goodWord = true := by decide +kernel
  have h1 := List.all_eq_true.mp hg w hw
  rw [inG12] at hw
  obtain ⟨i, -, hi⟩ := List.mem_filterMap.mp hw
  exact lw_mem i hi h1
theorem cls_ok12 : cls_ok 12 := ⟨rfl, inH12, ⟨tyX12, tyX12_ok⟩, nmX12⟩
theorem cls_all : ∀ ci, ci < 13 → cls_ok ci := by
  intro ci h
  match ci, h with
  | 0, _ => exact cls_ok0
  | 1, _ => exact cls_ok1
  | 2, _ => exact cls_ok2
  | 3, _ => exact cls_ok3
  | 4, _ => exact cls_ok4
  | 5, _ => exact cls_ok5
  | 6, _ => exact cls_ok6
  | 7, _ => exact cls_ok7
  | 8, _ => exact cls_ok8
  | 9, _ => exact cls_ok9
  | 10, _ => exact cls_ok10
  | 11, _ => exact cls_ok11
  | 12, _ => exact cls_ok12
  | n + 13, h => exact absurd h (by omega)
theorem fvl_k {E : En} {g : G2} {i k j : Nat} {x : Int32} (hj : j ≠ k) : fvl E (up2 g i k x) i j = fvl E g i j := by
  unfold fvl
  rw [up2_k g i k x hj]
theorem fvl_set {E : En} {g : G2} {i c k n : Nat} {x : Int32} {v : Value} (hc : cof i = c) (hk : k < n) (hv : fvl E (up2 g i k x) i k = v) : ((List.range n).map (fvl E g i)).set k v = (List.range n).map (fvl E (up2 g i k x) i) := by
  apply List.ext_getElem?
  intro j
  by_cases hj : j = k
  · subst hj
    rw [List.getElem?_set_self (by simpa using hk), List.getElem?_map, List.getElem?_range hk]
    rw [Option.map_some, hv]
  · rw [List.getElem?_set_ne (Ne.symm hj), List.getElem?_map, List.getElem?_map]
    by_cases hl : j < n
    · rw [List.getElem?_range hl, Option.map_some, Option.map_some, fvl_k hj]
    · rw [List.getElem?_eq_none (by rw [List.length_range]; omega), Option.map_none, Option.map_none]
section Rules
variable {E : En} {md : MD} {d : Nat} {Q : QT} {X : XT} {pc : Nat} {lv lv' : List (Nat × Value)} {st : List Value} {g : G2} {k : Nat}
theorem b_getV {a idx ci f kd : Nat} {v : Value} (hf : Lf (md_own md) idx ci f kd) (hc : cof a = ci) (hd : decode (md_cc md) pc = .ok (.getfield idx, 3)) (hv : fvl E g a f = cv E v) (kk : B E md d Q X (pc + 3) lv (v :: st) g k) : B E md d Q X pc lv (.ref a :: st) g k := by
  intro p l e R s m args below meth c H locs ls C hl hP hS
  obtain ⟨h1, h2, h3, h4⟩ := hf
  obtain ⟨o1, o2, -, -⟩ := cls_all ci h4
  have hcell : (wl E g)[a]? = some (E.1 a, .inr (ci, (List.range (nfl ci)).map (fvl E g a))) := by rw [wl_at (cof_lt hc (by omega)), cel_o hc (by omega)]
  exact va_get (C := Rc ci) (T := Tc ci) (N := nfl ci) (ref := (Tc ci f).1) C.1 C.2.1 C.2.2.2.2.2.2.1 o2 C.2.2.2.2.2.1 C.2.2.2.2.2.2.2.1 hP a hcell o1 f h2 (C.2.2.2.2.2.2.1 _ h1) (fun _ h => h) (v := cv E v) (by rw [List.getElem?_map, List.getElem?_range h2]; simp [hv]) hd (kk p l e R s m args below meth c H locs ls C hl hP hS)
theorem b_getI {a idx ci f : Nat} (hf : Lf (md_own md) idx ci f 0) (hc : cof a = ci) (hd : decode (md_cc md) pc = .ok (.getfield idx, 3)) (kk : B E md d Q X (pc + 3) lv (.int (g a f) :: st) g k) : B E md d Q X pc lv (.ref a :: st) g k :=
  b_getV hf hc hd (by simp [fvl, hc, hf.2.2.1, cv]) kk
theorem b_getZ {a idx ci f : Nat} (hf : Lf (md_own md) idx ci f 1) (hc : cof a = ci) (hd : decode (md_cc md) pc = .ok (.getfield idx, 3)) (kk : B E md d Q X (pc + 3) lv (.int (g a f) :: st) g k) : B E md d Q X pc lv (.ref a :: st) g k :=
  b_getV hf hc hd (by simp [fvl, hc, hf.2.2.1, cv]) kk
theorem b_getR {a idx ci f b : Nat} (hf : Lf (md_own md) idx ci f 2) (hc : cof a = ci) (hb : rt a f = b) (hd : decode (md_cc md) pc = .ok (.getfield idx, 3)) (kk : B E md d Q X (pc + 3) lv (.ref b :: st) g k) : B E md d Q X pc lv (.ref a :: st) g k :=
  b_getV hf hc hd (by simp [fvl, hc, hf.2.2.1, cv, hb]) kk
theorem b_getD {a idx ci f b : Nat} (hf : Lf (md_own md) idx ci f 3) (hc : cof a = ci) (hb : g a f = nI b) (hb2 : b < 2 ^ 31) (hd : decode (md_cc md) pc = .ok (.getfield idx, 3)) (kk : B E md d Q X (pc + 3) lv (.ref b :: st) g k) : B E md d Q X pc lv (.ref a :: st) g k :=
  b_getV hf hc hd (by simp [fvl, hc, hf.2.2.1, cv, hb, nI_clamp hb2]) kk
theorem b_putV {a idx ci f kd : Nat} {ty : FieldType} {v : Value} {x : Int32} (hf : Lf (md_own md) idx ci f kd) (ht : Lp ci f ty) (hc : cof a = ci) (hn : narrow ty (cv E v) = cv E v) (hfit : fits ty (cv E v) = true) (hd : decode (md_cc md) pc = .ok (.putfield idx, 3)) (hv : fvl E (up2 g a f x) a f = cv E v) (kk : B E md d Q X (pc + 3) lv st (up2 g a f x) k) : B E md d Q X pc lv (v :: .ref a :: st) g k := by
  intro p l e R s m args below meth c H locs ls C hl hP hS
  obtain ⟨h1, h2, h3, h4⟩ := hf
  obtain ⟨o1, o2, ⟨ty0, o3⟩, o4⟩ := cls_all ci h4
  have hcell : (wl E g)[a]? = some (E.1 a, .inr (ci, (List.range (nfl ci)).map (fvl E g a))) := by rw [wl_at (cof_lt hc (by omega)), cel_o hc (by omega)]
  refine va_put (C := Rc ci) (T := Tc ci) (N := nfl ci) (ref := (Tc ci f).1) C.1 C.2.1 C.2.2.2.2.2.2.1 o2 ty0 o3 o4 C.2.2.2.2.2.1 C.2.2.2.2.2.2.2.1 hP (wl_D C.2.2.2.2.2.2.2.2.2.2.1 (fun i h => AD_in h)) hS a hcell o1 f h2 (C.2.2.2.2.2.2.1 _ h1) (fun _ h => h) ht.1 ht.2 hn hfit (by simpa using h2) hd (fun H locs hP hD hS => ?_)
  rw [wl_setG (g' := up2 g a f x) (cof_lt hc (by omega)) (fun j hj => up2_f g a _ x hj) (by rw [cel_o hc (by omega), fvl_set hc h2 hv])] at hP
  exact kk p l e R s m args below meth c H locs ls C hl hP hS
theorem b_putI {a idx ci f : Nat} {x : Int32} (hf : Lf (md_own md) idx ci f 0) (ht : Lp ci f .int) (hc : cof a = ci) (hd : decode (md_cc md) pc = .ok (.putfield idx, 3)) (kk : B E md d Q X (pc + 3) lv st (up2 g a f x) k) : B E md d Q X pc lv (.int x :: .ref a :: st) g k :=
  b_putV hf ht hc rfl rfl hd (by simp [fvl, hc, hf.2.2.1, cv, up2_s]) kk
theorem b_putZ {a idx ci f : Nat} {x : Int32} (h01 : x = 0 ∨ x = 1) (hf : Lf (md_own md) idx ci f 1) (ht : Lp ci f .boolean) (hc : cof a = ci) (hd : decode (md_cc md) pc = .ok (.putfield idx, 3)) (kk : B E md d Q X (pc + 3) lv st (up2 g a f x) k) : B E md d Q X pc lv (.int x :: .ref a :: st) g k :=
  b_putV hf ht hc (by rcases h01 with rfl | rfl <;> rfl) (by rcases h01 with rfl | rfl <;> rfl) hd (by simp [fvl, hc, hf.2.2.1, cv, up2_s]) kk
theorem b_putD {a idx ci f b : Nat} {C : String} (hb2 : b < 2 ^ 31) (hf : Lf (md_own md) idx ci f 3) (ht : Lp ci f (.object C)) (hc : cof a = ci) (hd : decode (md_cc md) pc = .ok (.putfield idx, 3)) (kk : B E md d Q X (pc + 3) lv st (up2 g a f (nI b)) k) : B E md d Q X pc lv (.ref b :: .ref a :: st) g k :=
  b_putV hf ht hc rfl rfl hd (by simp [fvl, hc, hf.2.2.1, cv, up2_s, nI_clamp hb2]) kk
/-! returns -/
theorem b_iret {x : Int32} (hr : md_ret md = some .int) (hk : k ≤ md_mc md) (hd : decode (md_cc md) pc = .ok (.ireturn, 1)) (hq : Q (some (.int x)) g) : B E md d Q X pc lv [.int x] g k := by
  intro p l e R s m args below meth c H locs ls C hl hP hS
  refine W.widen (k := md_mc md) (n := 6 * md_mc md) hk (by omega) (vx_ret ?_)
  exact W.iret C.1 C.2.1 (by rw [C.2.2.2.1, hr]) (fun t ht _ => ⟨⟨some (.int x), g, rfl, hq, by rw [ht]; exact hP⟩, hS.F ht⟩) hS.2.2 hd (hlocks := C.2.2.2.2.1)
theorem b_zret {x : Int32} (h01 : x = 0 ∨ x = 1) (hr : md_ret md = some .boolean) (hk : k ≤ md_mc md) (hd : decode (md_cc md) pc = .ok (.ireturn, 1)) (hq : Q (some (.int x)) g) : B E md d Q X pc lv [.int x] g k := by
  intro p l e R s m args below meth c H locs ls C hl hP hS
  refine W.widen (k := md_mc md) (n := 6 * md_mc md) hk (by omega) (vx_ret ?_)
  exact W.zret (ty := .boolean) C.1 C.2.1 (by rw [C.2.2.2.1, hr]) (by rcases h01 with rfl | rfl <;> decide +kernel) (fun t ht _ => ⟨⟨some (.int x), g, rfl, hq, by rw [ht]; exact hP⟩, hS.F ht⟩) hS.2.2 hd (hlocks := C.2.2.2.2.1)
theorem b_vret (hr : md_ret md = none) (hk : k ≤ md_mc md) (hd : decode (md_cc md) pc = .ok (.return_, 1)) (hq : Q none g) : B E md d Q X pc lv [] g k := by
  intro p l e R s m args below meth c H locs ls C hl hP hS
  refine W.widen (k := md_mc md) (n := 6 * md_mc md) hk (by omega) (vx_ret ?_)
  exact W.vret C.1 C.2.1 (by rw [C.2.2.2.1, hr]) (fun t ht _ => ⟨⟨none, g, rfl, hq, by rw [ht]; exact hP⟩, hS.F ht⟩) hS.2.2 hd (hlocks := C.2.2.2.2.1)
/-! calls -/
def psh : Option Value → List Value → List Value
  | none, st => st
  | some v, st => v :: st
theorem psh_cv (E : En) (v : Option Value) (st : List Value) : (v.map (cv E)).toList ++ st.map (cv E) = (psh v st).map (cv E) := by cases v <;> rfl
theorem WD_blind {E : En} {g : G2} {sz : Nat} {av : List Value} : FrameBlind (va_Pc av (WD E g sz)) := by
  intro a U gg mk h
  obtain ⟨h0, h1, h2, h3, h4, h5⟩ := h
  exact ⟨h0, h1, h2, va_K.moved (u := U) (U := U.calling gg mk a) (Vm.Alike.refl U.vm) h3, h4, h5.same rfl⟩
theorem WD_at {p : Program} {l : Launch} {R : Room} {s : State} {m : MethodId} {args : Array Value} {meth : Method} {c : Code} {H : Heap} {locs : List Loc} (C : Cx E md d p l R s m args meth c) (hP : va_P E.2.1 clsL (wl E g) H) (hS : va_S (AD E s.heap.size) s.heap H locs) {U : State} (hU : U.heap = H) (hW : s.WarmedH U.vm) : WD E g H.size U := by
  refine ⟨by rw [hU], by rw [hU]; exact hP, va_K.moved hW.alike C.2.2.2.2.2.2.2.1, C.2.2.2.2.2.2.2.2.2.2.1, ?_⟩
  rw [hU]
  exact ((C.2.2.2.2.2.2.2.2.2.2.2.1.kept hS.2.1).warm hW).narrow (AD_mono hS.1)
/-- behind a call's run -/
theorem b_ran {p : Program} {l : Launch} {e : Env} {R : Room} {s : State} {m : MethodId} {args : Array Value} {below : List Frame} {meth : Method} {c : Code} {H : Heap} {locs : List Loc} {ls : Array Slot} {mc : Nat} {st0 : List Value} {a : Array Value}
    (C : Cx E md d p l R s m args meth c) (hl : lv_has ls (md_nL md) (lvc E lv)) (hP : va_P E.2.1 clsL (wl E g) H) (hS : va_S (AD E s.heap.size) s.heap H locs) (hmc : k + mc ≤ md_mc md)
    (hr : vx_Run p l e R s m args below meth c H locs k (6 * k) mc (6 * mc) (F0 m pc ls st0) (st.map (cv E)) (QcM E (fun v g' => B E md d Q X (pc + 3) lv (psh v st) g' (k + mc)) H.size a) (XcM E X H.size) (AD E H.size)) :
    W p l e R s m args below meth c H locs k (6 * k) (vx_MQ below (QcM E Q s.heap.size) (XcM E X s.heap.size) args s (md_mc md) (6 * md_mc md) (AD E s.heap.size)) (F0 m pc ls st0) := by
  intro T hT X0
  rcases hr T hT X0 with ⟨v, st₀, t, T', L, h0, X', hL, e1, e2, ⟨⟨v', g', hv, hQ, hP1⟩, hF⟩, stp⟩ | ⟨q, st₀, t, T', L, Ex, ce, h0, X', hL, e1, e2, ⟨⟨g', hX, hP1⟩, hF⟩, hce, hcv, hcl, stp⟩
  · cases hv
    obtain ⟨k1, k2, k3⟩ := vx_keep h0 e1 hS (fun q _ h => AD_mono hS.1 q h) (AD_mono hS.1) hL hF
    have hP2 : va_P E.2.1 clsL (wl E g') T'.heap := by rw [e1]; exact hP1
    have hk6 : 6 * k + 6 * mc = 6 * (k + mc) := by omega
    have := hQ p l e R s m args below meth c T'.heap (locs ++ L) ls C hl hP2 k3
    rw [← hk6, ← psh_cv] at this
    obtain ⟨t2, a1, b1⟩ := this T' rfl X'
    exact ⟨t2, stp t2 a1, b1⟩
  · obtain ⟨k1, k2, k3⟩ := vx_keep h0 e1 hS (fun q _ h => AD_mono hS.1 q h) (AD_mono hS.1) hL hF
    have hP2 : va_P E.2.1 clsL (wl E g') T'.heap := by rw [e1]; exact hP1
    obtain ⟨t2, a1, b1⟩ := vx_out (mc := md_mc md) (ms := 6 * md_mc md) (Qc := QcM E Q s.heap.size) (XC := XcM E X s.heap.size) (free := AD E s.heap.size) (pc := pc) (ls := ls) (rest := st.map (cv E)) (fun x hx => (C.2.2.2.2.2.2.2.2.1 x hx).elim) C.2.2.2.2.1 (by rw [e1]; exact hce) hcv hcl (fun t ht _ => ⟨⟨g', hX, by rw [ht]; exact hP2⟩, k3.F ht⟩) k3.2.2 hmc (by omega) T' rfl X'
    exact ⟨t2, stp.trans a1, b1⟩
/-- a method whose words are among the tables', with n parameters -/
def Lm (md' : MD) (n : Nat) : Prop := Cond.initialized (md_y md').cls ∈ lw_g ∧ Cond.code (md_y md') (md_cc md') (md_nL md') (md_ret md') ∈ lw_g ∧ ((md_y md').cls ≠ "java/lang/invoke/MethodHandle" ∧ (md_y md').cls ≠ "java/lang/invoke/VarHandle" ∧ (parseMethodDescriptor (md_y md').desc).map (fun d => d.parameters.length) = some n) ∧ md_nL md' ≤ 100
def LmV (md' : MD) : Prop := Cond.instanceMethod (md_y md') ∈ lw_g ∧ Cond.selects (md_y md').cls (md_y md') (md_y md') ∈ lw_g
def LmS (md' : MD) : Prop := Cond.static (md_y md') ∈ lw_g
theorem Lm.cb {R : Room} {s : State} {args : Array Value} {own : String} {idx n d' : Nat} {md' : MD} (hts : ∀ w ∈ lw_g, w.before args s = true) (h : Lm md' n) (hl : Cond.methodLink own idx (md_y md') ∈ lw_g) (hR : R = rmD d (md_mc md)) (hd' : d' + 1 ≤ d) :
    CallB R s args own idx (md_y md') (md_cc md') (md_nL md') (md_ret md') (md_ws md') (rmD d' (md_mc md')) (md_mc md') (6 * md_mc md') n := by
  subst hR
  exact callB_of n hts (lw_gin (fun w hw => (List.mem_cons.mp hw).elim (fun e => e ▸ h.2.1) id)) rfl rfl rfl (hts _ h.1) (hts _ hl) h.2.2.1 ⟨hd', by simp only [rmD]; have := h.2.2.2; omega⟩
theorem b_callV {idx n d' a ci : Nat} {md' : MD} {As : List Value} {st0 : List Value} (hd : decode (md_cc md) pc = .ok (.invokevirtual idx, 3)) (hl : Cond.methodLink (md_own md) idx (md_y md') ∈ lw_g) (hm : Lm md' n) (hv : LmV md') (hc : cof a = ci) (hci : ci < 13) (hR : Rc ci = (md_y md').cls) (hn : As.length = n) (hst : st0 = As.reverse ++ .ref a :: st) (hw : (st.map fun v => v.category).sum ≤ 8) (hdd : d' + 1 ≤ d) (hmc : k + md_mc md' ≤ md_mc md)
    (hM : M E md' d' (.ref a :: As) g (fun v g' => B E md d Q X (pc + 3) lv (psh v st) g' (k + md_mc md')) X) : B E md d Q X pc lv st0 g k := by
  intro p l e R s m args below meth c H locs ls C hl0 hP hS
  have hts := C.2.2.2.2.2.2.1
  have hRm := C.2.2.2.2.2.2.2.2.2.2.2.2
  obtain ⟨o1, -⟩ := cls_all ci hci
  have hcell : (wl E g)[a]? = some (E.1 a, .inr (ci, (List.range (nfl ci)).map (fvl E g a))) := by rw [wl_at (cof_lt hc (by omega)), cel_o hc (by omega)]
  have hrecv := va_recv C.2.2.2.2.2.2.2.1 hP o1 hcell
  have hcat : ((st.map (cv E)).map fun v => v.category).sum ≤ 8 := by rw [List.map_map, show ((fun v : Value => v.category) ∘ cv E) = (fun v => v.category) from funext (cv_cat E)]; exact hw
  refine b_ran (st := st) (a := (Value.ref (E.1 a) :: As.map (cv E)).toArray) C hl0 hP hS hmc ?_
  subst hst
  refine vx_runV (As := As.map (cv E)) (rest := st.map (cv E)) (C := (md_y md').cls) ⟨C.1, C.2.1, C.2.2.1, C.2.2.2.2.2.1, hts⟩ (hM l C.2.2.2.2.2.2.2.2.2.1 H.size) ⟨hm.cb hts hl hRm hdd, hts _ hv.1, hts _ hv.2⟩ ⟨WD_blind, by rw [← hR]; exact hrecv, fun U hU hW => ⟨rfl, WD_at C hP hS hU hW⟩⟩ rfl (by simpa using hn) hl0.1 (by simp [List.map_reverse, cv]) (lv_room hcat) hd ?_
  rw [hRm]
  exact ⟨hmc, by simp only [rmD]; omega⟩
theorem b_callS {idx n d' : Nat} {md' : MD} {As : List Value} {st0 : List Value} (hd : decode (md_cc md) pc = .ok (.invokestatic idx, 3)) (hl : Cond.methodLink (md_own md) idx (md_y md') ∈ lw_g) (hm : Lm md' n) (hv : LmS md') (hn : As.length = n) (hst : st0 = As.reverse ++ st) (hw : (st.map fun v => v.category).sum ≤ 8) (hdd : d' + 1 ≤ d) (hmc : k + md_mc md' ≤ md_mc md)
    (hM : M E md' d' As g (fun v g' => B E md d Q X (pc + 3) lv (psh v st) g' (k + md_mc md')) X) : B E md d Q X pc lv st0 g k := by
  intro p l e R s m args below meth c H locs ls C hl0 hP hS
  have hts := C.2.2.2.2.2.2.1
  have hRm := C.2.2.2.2.2.2.2.2.2.2.2.2
  have hcat : ((st.map (cv E)).map fun v => v.category).sum ≤ 8 := by rw [List.map_map, show ((fun v : Value => v.category) ∘ cv E) = (fun v => v.category) from funext (cv_cat E)]; exact hw
  refine b_ran (st := st) (a := (As.map (cv E)).toArray) C hl0 hP hS hmc ?_
  subst hst
  refine vx_runS (As := As.map (cv E)) (rest := st.map (cv E)) ⟨C.1, C.2.1, C.2.2.1, C.2.2.2.2.2.1, hts⟩ (hM l C.2.2.2.2.2.2.2.2.2.1 H.size) ⟨hm.cb hts hl hRm hdd, hts _ hv⟩ ⟨WD_blind, fun U hU hW => ⟨rfl, WD_at C hP hS hU hW⟩⟩ rfl (by simpa using hn) hl0.1 (by simp [List.map_reverse]) (lv_room hcat) hd ?_
  rw [hRm]
  exact ⟨hmc, by simp only [rmD]; omega⟩
theorem M.weak {As : List Value} {Q' : QT} (hM : M E md d As g Q X) (h : ∀ v g', Q v g' → Q' v g') : M E md d As g Q' X := by
  intro l hl sz p e ha hc hk s m args below hf hfit hP0 hk0
  obtain ⟨j, o, h1, h2, h3, h4⟩ := hM l hl sz p e ha hc hk s m args below hf hfit hP0 hk0
  refine ⟨j, o, h1, h2, h3, ?_⟩
  rcases h4 with ⟨⟨⟨v, g', e1, e2, e3⟩, e4⟩, e5⟩ | h5
  · exact Or.inl ⟨⟨⟨v, g', e1, h v g' e2, e3⟩, e4⟩, e5⟩
  · exact Or.inr h5
end Rules
