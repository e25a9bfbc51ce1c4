/-! the abstract heap: a number at each slot of each id; a thin machine over it -/
abbrev G2 : Type := Nat → Nat → Int32
def up2 (g : G2) (a k : Nat) (x : Int32) : G2 := fun b j => if b = a ∧ j = k then x else g b j
theorem up2_s (g : G2) (a k : Nat) (x : Int32) : up2 g a k x a k = x := by simp [up2]
theorem up2_k (g : G2) (a k : Nat) (x : Int32) {j : Nat} (h : j ≠ k) : up2 g a k x a j = g a j := by simp [up2, h]
theorem up2_a (g : G2) (a k : Nat) (x : Int32) {b : Nat} (h : b ≠ a) (j : Nat) : up2 g a k x b j = g b j := by simp [up2, h]
theorem up2_f (g : G2) (a k : Nat) (x : Int32) {b : Nat} (h : b ≠ a) : up2 g a k x b = g b := by funext j; exact up2_a g a k x h j
theorem up2_u (g : G2) (a k : Nat) (x : Int32) : up2 g a k x a = upd (g a) k x := by funext j; by_cases h : j = k <;> simp [up2, upd, h]
/-- a whole row of one id anew -/
def upA (g : G2) (a : Nat) (f : Nat → Int32) : G2 := fun b => if b = a then f else g b
theorem upA_s (g : G2) (a : Nat) (f : Nat → Int32) : upA g a f a = f := by simp [upA]
theorem upA_a (g : G2) (a : Nat) (f : Nat → Int32) {b : Nat} (h : b ≠ a) : upA g a f b = g b := by simp [upA, h]
/-- addresses of the ids (strings from 1000 on); classes' numbers and slots; array classes of int, byte, String; the strings' byte arrays -/
abbrev En : Type := (Nat → Nat) × va_G × (ClassId × ClassId × ClassId) × (Nat → Nat)
def cv (E : En) : Value → Value
  | .ref i => .ref (E.1 i)
  | v => v
def fvl (E : En) (g : G2) (i k : Nat) : Value :=
  if fk (cof i) k ≤ 1 then .int (g i k) else if fk (cof i) k = 2 then .ref (E.1 (rt i k)) else .ref (E.1 (g i k).toNatClampNeg)
def nfl (ci : Nat) : Nat := (nthL fkL ci).length
def cel (E : En) (g : G2) (i : Nat) : va_E :=
  if 0 < iln i then .inl (E.2.2.1.1, iln i, .inl (g i))
  else if 0 < bln i then .inl (E.2.2.1.2.1, bln i, .inl (g i))
  else if 0 < sln i then .inl (E.2.2.1.2.2, sln i, .inr (.inr (.inr (.inr (fun j => some (E.1 (1000 + sof i + j)))))))
  else .inr (cof i, (List.range (nfl (cof i))).map (fvl E g i))
def wl (E : En) (g : G2) : va_W := (List.range NID).map (fun i => (E.1 i, cel E g i))
theorem wl_at {E : En} {g : G2} {i : Nat} (h : i < NID) : (wl E g)[i]? = some (E.1 i, cel E g i) := by
  simp [wl, List.getElem?_map, List.getElem?_range h]
theorem wl_inv {E : En} {g : G2} {i : Nat} {q : Nat × va_E} (h : (wl E g)[i]? = some q) : i < NID ∧ q = (E.1 i, cel E g i) := by
  have hl : i < NID := by
    have := (List.getElem?_eq_some_iff.mp h).1
    simpa [wl] using this
  exact ⟨hl, by rw [wl_at hl] at h; exact (Option.some.inj h).symm⟩
theorem wl_len (E : En) (g : G2) : (wl E g).length = NID := by simp [wl]
theorem wl_setG {E : En} {g g' : G2} {i : Nat} {e : va_E} (hi : i < NID) (hg : ∀ j, j ≠ i → g' j = g j) (he : cel E g' i = e) : (wl E g).set i (E.1 i, e) = wl E g' := by
  apply List.ext_getElem?
  intro j
  by_cases hj : j = i
  · subst hj
    rw [List.getElem?_set_self (by rw [wl_len]; exact hi), wl_at hi, he]
  · rw [List.getElem?_set_ne (Ne.symm hj)]
    by_cases hl : j < NID
    · rw [wl_at hl, wl_at hl]
      congr 2
      have h9 := hg j hj
      have hf : fvl E g' j = fvl E g j := by funext k; simp only [fvl, h9]
      simp only [cel, h9, hf]
    · rw [List.getElem?_eq_none (by rw [wl_len]; omega), List.getElem?_eq_none (by rw [wl_len]; omega)]
theorem nthN_ge : ∀ (l : List Nat) (i d : Nat), l.length ≤ i → nthN l i d = d
  | [], _, _, _ => rfl
  | x :: r, 0, d, h => by simp at h
  | x :: r, n + 1, d, h => by simp only [nthN]; exact nthN_ge r n d (by simpa using h)
theorem len_tabs : cofL.length = NID ∧ ilnL.length = NID ∧ blnL.length = NID ∧ slnL.length = NID := by decide +kernel
theorem cof_lt {i c : Nat} (h : cof i = c) (hc : c < 99) : i < NID := by
  rcases Nat.lt_or_ge i NID with q | q
  · exact q
  · rw [cof, nthN_ge _ _ _ (by rw [len_tabs.1]; exact q)] at h; omega
theorem iln_lt {i : Nat} (h : 0 < iln i) : i < NID := by
  rcases Nat.lt_or_ge i NID with q | q
  · exact q
  · rw [iln, nthN_ge _ _ _ (by rw [len_tabs.2.1]; exact q)] at h; omega
theorem bln_lt {i : Nat} (h : 0 < bln i) : i < NID := by
  rcases Nat.lt_or_ge i NID with q | q
  · exact q
  · rw [bln, nthN_ge _ _ _ (by rw [len_tabs.2.2.1]; exact q)] at h; omega
theorem sln_lt {i : Nat} (h : 0 < sln i) : i < NID := by
  rcases Nat.lt_or_ge i NID with q | q
  · exact q
  · rw [sln, nthN_ge _ _ _ (by rw [len_tabs.2.2.2]; exact q)] at h; omega
/-- an object is no array, a byte array no int array .. -/
theorem kinds_apart : ∀ i, i < NID → (cof i < 99 → iln i = 0 ∧ bln i = 0 ∧ sln i = 0) ∧ (0 < bln i → iln i = 0) ∧ (0 < sln i → iln i = 0 ∧ bln i = 0) := by decide +kernel
theorem cel_i {E : En} {g : G2} {i : Nat} (h : 0 < iln i) : cel E g i = .inl (E.2.2.1.1, iln i, .inl (g i)) := by simp [cel, h]
theorem cel_b {E : En} {g : G2} {i : Nat} (h : 0 < bln i) : cel E g i = .inl (E.2.2.1.2.1, bln i, .inl (g i)) := by
  have := (kinds_apart i (bln_lt h)).2.1 h
  simp [cel, h, this]
theorem cel_s {E : En} {g : G2} {i : Nat} (h : 0 < sln i) : cel E g i = .inl (E.2.2.1.2.2, sln i, .inr (.inr (.inr (.inr (fun j => some (E.1 (1000 + sof i + j))))))) := by
  obtain ⟨h1, h2⟩ := (kinds_apart i (sln_lt h)).2.2 h
  simp [cel, h, h1, h2]
theorem cel_o {E : En} {g : G2} {i c : Nat} (h : cof i = c) (hc : c < 99) : cel E g i = .inr (c, (List.range (nfl c)).map (fvl E g i)) := by
  obtain ⟨h1, h2, h3⟩ := (kinds_apart i (cof_lt h hc)).1 (by omega)
  simp [cel, h1, h2, h3, h]
def inj (E : En) : Prop := ∀ i j, i < NID → j < NID → E.1 i = E.1 j → i = j
/-- what a method may write: the cells of the world, and those made behind sz -/
def AD (E : En) (sz : Nat) : Nat → Prop := fun q => (∃ i, i < NID ∧ q = E.1 i) ∨ sz ≤ q
theorem AD_in {E : En} {sz i : Nat} (h : i < NID) : AD E sz (E.1 i) := Or.inl ⟨i, h, rfl⟩
theorem AD_mono {E : En} {sz sz' : Nat} (h : sz ≤ sz') : ∀ q, AD E sz' q → AD E sz q := fun q h1 => h1.elim Or.inl (fun h2 => Or.inr (Nat.le_trans h h2))
theorem wl_D {E : En} {g : G2} {A : Nat → Prop} (hi : inj E) (hA : ∀ i, i < NID → A (E.1 i)) : va_D A (wl E g) := by
  refine ⟨fun i j p q h1 h2 e => ?_, fun k q h => ?_⟩
  · obtain ⟨a1, rfl⟩ := wl_inv h1
    obtain ⟨a2, rfl⟩ := wl_inv h2
    exact hi i j a1 a2 e
  · obtain ⟨a1, rfl⟩ := wl_inv h
    exact hA k a1
def tysE (E : En) : List (ClassId × FieldType) := [(E.2.2.1.1, .int), (E.2.2.1.2.1, .byte), (E.2.2.1.2.2, .object "java/lang/String")]
def lw_g : List Cond := lw_tbl.filter goodWord
theorem lw_gin {ws : List Cond} (h : ∀ w ∈ ws, w ∈ lw_g) : GoodIn lw_g ws := fun w hw => ⟨h w hw, good_of_word (List.mem_filter.mp (h w hw)).2⟩
theorem lw_mem {w : Cond} (i : Nat) (h : lw_tbl[i]? = some w) (hg : goodWord w = true) : w ∈ lw_g := List.mem_filter.mpr ⟨List.mem_of_getElem? h, hg⟩
/-- the string constants: class, entry, text, number -/
def strL : List (String × Nat × String × Nat) := [("TownTuneModel", 11, "elder", 0), ("TownTuneModel", 13, "child", 1), ("TownTuneModel", 15, "deaf", 2), ("TownTuneModel", 17, "spy", 3), ("TownTuneModel", 23, "year", 4), ("TownTuneModel", 25, "base", 5), ("TownTuneModel", 27, "last", 6), ("TownTuneModel", 29, "key", 7), ("TownTuneModel", 31, "house", 8), ("TownTuneModel", 33, "kind", 9), ("TownTuneModel", 35, "sung", 10), ("TownTune", 97, "the tape has not so many bytes", 11), ("TownTune$Tokens", 69, "elder", 12), ("TownTune$Tokens", 75, "child", 13), ("TownTune$Tokens", 77, "deaf", 14), ("TownTune$Tokens", 79, "spy", 15), ("TownTune$Tokens", 81, "feud", 16), ("TownTune$Tokens", 83, "other", 17), ("TownTune$Tokens", 85, "sings", 18), ("TownTune$Tokens", 87, "or", 19), ("TownTune$Tokens", 89, "and", 20), ("TownTune$Tokens", 91, "not", 21), ("TownTune$Tokens", 93, "key", 22), ("TownTune$Tokens", 95, "year", 23), ("TownTune$Tokens", 97, "base", 24), ("TownTune$Tokens", 99, "last", 25), ("TownTune$Tokens", 101, "house", 26), ("TownTune$Tokens", 103, "kind", 27), ("TownTune$Tokens", 104, "sung", 28), ("TownTune", 161, "no such count", 29), ("TownTune", 194, "no such person", 30), ("TownTune", 188, "nothing such is told of a person", 31), ("TownTune", 196, "nothing such is answered", 32), ("TownTune", 205, "no such feud", 33), ("TownTune", 213, "no such place", 34), ("TownTune", 272, "no phrase", 35), ("TownTune", 274, "a phrase with more signs than told", 36), ("TownTune", 288, "no such interval", 37), ("TownTune", 290, "this person has not so many signs", 38), ("TownTune", 316, "not so many years", 39), ("TownTune", 358, "no two houses", 40), ("TownTuneModel", 289, "other", 41), ("TownTuneModel", 290, "sings", 42), ("TownTuneModel", 267, "not", 43), ("TownTuneModel", 275, "and", 44), ("TownTuneModel", 280, "or", 45), ("TownTuneModel", 298, "feud", 46)]
def strC : List (Nat × Nat × List Int32) := [(0, 5, [101, 108, 100, 101, 114]), (1, 5, [99, 104, 105, 108, 100]), (2, 4, [100, 101, 97, 102]), (3, 3, [115, 112, 121]), (4, 4, [121, 101, 97, 114]), (5, 4, [98, 97, 115, 101]), (6, 4, [108, 97, 115, 116]), (7, 3, [107, 101, 121]), (8, 5, [104, 111, 117, 115, 101]), (9, 4, [107, 105, 110, 100]), (10, 4, [115, 117, 110, 103]), (12, 5, [101, 108, 100, 101, 114]), (13, 5, [99, 104, 105, 108, 100]), (14, 4, [100, 101, 97, 102]), (15, 3, [115, 112, 121]), (16, 4, [102, 101, 117, 100]), (17, 5, [111, 116, 104, 101, 114]), (18, 5, [115, 105, 110, 103, 115]), (19, 2, [111, 114]), (20, 3, [97, 110, 100]), (21, 3, [110, 111, 116]), (22, 3, [107, 101, 121]), (23, 4, [121, 101, 97, 114]), (24, 4, [98, 97, 115, 101]), (25, 4, [108, 97, 115, 116]), (26, 5, [104, 111, 117, 115, 101]), (27, 4, [107, 105, 110, 100]), (28, 4, [115, 117, 110, 103]), (41, 5, [111, 116, 104, 101, 114]), (42, 5, [115, 105, 110, 103, 115]), (43, 3, [110, 111, 116]), (44, 3, [97, 110, 100]), (45, 2, [111, 114]), (46, 4, [102, 101, 117, 100])]
def castL : List (String × String) := [("java/lang/IllegalArgumentException", "java/lang/IllegalArgumentException"), ("java/util/NoSuchElementException", "java/util/NoSuchElementException"), ("TownTune", "java/lang/Object"), ("TownTune$Reader", "java/lang/Object"), ("TownTune$Town", "java/lang/Object"), ("TownTune$Feuds", "java/lang/Object"), ("TownTune$Rule", "java/lang/Object"), ("TownTune$Tokens", "java/lang/Object"), ("TownTune$Life", "java/lang/Object"), ("TownTune$Acts", "java/lang/Object"), ("TownTune$Heard", "java/lang/Object"), ("TownTune$Image", "java/lang/Object"), ("TownTune$Likeness", "java/lang/Object"), ("TownTune$Game", "java/lang/Object"), ("TownTuneModel", "java/lang/Object"), ("java/lang/IllegalArgumentException", "java/lang/Object"), ("java/util/NoSuchElementException", "java/lang/Object"), ("java/lang/Throwable", "java/lang/Object"), ("java/lang/String", "java/lang/Object")]
def declL : List MethodName := [⟨"java/lang/RuntimeException", "<init>", "()V"⟩, ⟨"java/lang/RuntimeException", "<init>", "(Ljava/lang/String;)V"⟩, ⟨"java/lang/Exception", "<init>", "()V"⟩, ⟨"java/lang/Exception", "<init>", "(Ljava/lang/String;)V"⟩, ⟨"java/lang/Throwable", "<init>", "()V"⟩, ⟨"java/lang/Throwable", "<init>", "(Ljava/lang/String;)V"⟩]
def nestL : List (String × Nat) := [("TownTune$Life", 87), ("TownTune$Game", 51)]
/-- a static that is null, or the object at t -/
def ZqE (C n d : String) (t : Nat) (A : Nat → Prop) (U : State) (H : Heap) : Prop := va_Z C n d .null A U H ∨ va_Z C n d (.ref t) A U H
theorem ZqE.moved {C n d : String} {t : Nat} {A : Nat → Prop} {u U : State} {H : Heap} (hvm : u.vm.Alike U.vm) (h : ZqE C n d t A u H) : ZqE C n d t A U H := h.elim (fun h => Or.inl (h.moved hvm)) (fun h => Or.inr (h.moved hvm))
theorem ZqE.kept {C n d : String} {t : Nat} {A : Nat → Prop} {U : State} {H H1 : Heap} (h : ZqE C n d t A U H) (hq : ∀ a : Nat, a < H.size → ¬ A a → H1[a]? = H[a]?) : ZqE C n d t A U H1 := h.elim (fun h => Or.inl (h.kept hq)) (fun h => Or.inr (h.kept hq))
theorem ZqE.narrow {C n d : String} {t : Nat} {A B : Nat → Prop} {U : State} {H : Heap} (h : ZqE C n d t A U H) (hAB : ∀ q, B q → A q) : ZqE C n d t B U H := h.elim (fun h => Or.inl (h.narrow hAB)) (fun h => Or.inr (h.narrow hAB))
/-! what lies outside the world and is never written: the two statics that a throw reads, the strings -/
def STs (E : En) (A : Nat → Prop) (U : State) (H : Heap) : Prop :=
  vx_Zq Bundle.tN "UNASSIGNED_STACK" Bundle.steD A U H ∧ vx_Zq Bundle.tN "SUPPRESSED_SENTINEL" Bundle.listD A U H ∧
  ((∀ q ∈ strC, vk_S 1 [q.2.1] [q.2.2] (fun _ => E.1 (1000 + q.1)) (fun _ => E.1 (2000 + q.1)) A U H) ∧ va_Z "java/lang/String" "COMPACT_STRINGS" "Z" (.int 1) A U H ∧ ZqE "jdk/internal/util/Preconditions" "SIOOBE_FORMATTER" "Ljava/util/function/BiFunction;" (E.1 3000) A U H) ∧
  (∀ q ∈ strL, vk_R q.1 q.2.1 q.2.2.1 (E.1 (1000 + q.2.2.2)) U) ∧ (∀ q ∈ nestL, va_Nw (.methodLinkNest q.1 q.2 yX11_isIn "TownTune") U) ∧
  (∀ q ∈ castL, va_Nw (.castable q.1 q.2) U) ∧ (∀ q ∈ declL, va_Nw (.declares q) U)
theorem STs.warm {E : En} {A : Nat → Prop} {s U : State} {H : Heap} (hW : s.WarmedH U.vm) (h : STs E A s H) : STs E A U H :=
  ⟨h.1.moved hW.alike, h.2.1.moved hW.alike, ⟨fun q hq => (h.2.2.1.1 q hq).moved hW.alike, h.2.2.1.2.1.moved hW.alike, h.2.2.1.2.2.moved hW.alike⟩, fun q hq => (h.2.2.2.1 q hq).warm hW, fun q hq => va_Nw.warmM hW (h.2.2.2.2.1 q hq), fun q hq => va_Nw.warmC hW (h.2.2.2.2.2.1 q hq), fun q hq => va_Nw.warmD hW (h.2.2.2.2.2.2 q hq)⟩
theorem STs.same {E : En} {A : Nat → Prop} {u U : State} {H : Heap} (hv : U.vm = u.vm) (h : STs E A u H) : STs E A U H := by
  have ha : u.vm.Alike U.vm := by rw [hv]; exact Vm.Alike.refl u.vm
  exact ⟨h.1.moved ha, h.2.1.moved ha, ⟨fun q hq => (h.2.2.1.1 q hq).moved ha, h.2.2.1.2.1.moved ha, h.2.2.1.2.2.moved ha⟩, fun q hq => (h.2.2.2.1 q hq).same hv, fun q hq => va_Nw.same rfl hv.symm (h.2.2.2.2.1 q hq), fun q hq => va_Nw.same rfl hv.symm (h.2.2.2.2.2.1 q hq), fun q hq => va_Nw.same rfl hv.symm (h.2.2.2.2.2.2 q hq)⟩
theorem STs.kept {E : En} {A : Nat → Prop} {U : State} {H H1 : Heap} (h : STs E A U H) (hq : ∀ a : Nat, a < H.size → ¬ A a → H1[a]? = H[a]?) : STs E A U H1 :=
  ⟨h.1.kept hq, h.2.1.kept hq, ⟨fun q hq1 => (h.2.2.1.1 q hq1).kept hq, h.2.2.1.2.1.kept hq, h.2.2.1.2.2.kept hq⟩, h.2.2.2⟩
theorem STs.narrow {E : En} {A B : Nat → Prop} {U : State} {H : Heap} (h : STs E A U H) (hAB : ∀ q, B q → A q) : STs E B U H :=
  ⟨h.1.narrow hAB, h.2.1.narrow hAB, ⟨fun q hq1 => (h.2.2.1.1 q hq1).narrow hAB, h.2.2.1.2.1.narrow hAB, h.2.2.1.2.2.narrow hAB⟩, h.2.2.2⟩
/-- a method: its class, name, code, locals, what it returns, how many throws it may make -/
abbrev MD : Type := String × MethodName × ByteArray × Nat × Option FieldType × Nat
abbrev md_own (m : MD) : String := m.1
abbrev md_y (m : MD) : MethodName := m.2.1
abbrev md_cc (m : MD) : ByteArray := m.2.2.1
abbrev md_nL (m : MD) : Nat := m.2.2.2.1
abbrev md_ret (m : MD) : Option FieldType := m.2.2.2.2.1
abbrev md_mc (m : MD) : Nat := m.2.2.2.2.2
abbrev md_ws (m : MD) : List Cond := Cond.code (md_y m) (md_cc m) (md_nL m) (md_ret m) :: lw_g
def rmD (d mc : Nat) : Room := { frames := d, cells := mc, slots := 6 * mc, locals := 128 * d }
abbrev QT : Type := Option Value → G2 → Prop
abbrev XT : Type := String → G2 → Prop
/-- what a method starts from, beside its arguments -/
def WD (E : En) (g : G2) (sz : Nat) (U : State) : Prop :=
  U.heap.size = sz ∧ va_P E.2.1 clsL (wl E g) U.heap ∧ va_K E.2.1 clsL (tysE E) U ∧ inj E ∧ STs E (AD E sz) U U.heap
def QcM (E : En) (Q : QT) (sz : Nat) : Array Value → State → Outcome → State → Prop := fun _ st o t =>
  (∃ (v : Option Value) (g' : G2), o = .returned (v.map (cv E)) ∧ Q v g' ∧ va_P E.2.1 clsL (wl E g') t.heap) ∧ va_F (AD E sz) st t
def XcM (E : En) (X : XT) (sz : Nat) : String → State → State → Prop := fun Ex st t =>
  (∃ g' : G2, X Ex g' ∧ va_P E.2.1 clsL (wl E g') t.heap) ∧ va_F (AD E sz) st t
/-- THE CONTRACT of a method, at these arguments, from this heap: it comes to Q, or throws and comes to X -/
def M (E : En) (md : MD) (d : Nat) (As : List Value) (g : G2) (Q : QT) (X : XT) : Prop :=
  ∀ l : Launch, l.stackTraces = false → ∀ sz : Nat,
    vx_Met l (md_y md) (md_ws md) (rmD d (md_mc md)) (va_Pc (As.map (cv E)) (WD E g sz)) (QcM E Q sz) (XcM E X sz) (md_mc md) (6 * md_mc md) (AD E sz)
/-- the machine's context inside a method's body -/
def Cx (E : En) (md : MD) (d : Nat) (p : Program) (l : Launch) (R : Room) (s : State) (m : MethodId) (args : Array Value) (meth : Method) (c : Code) : Prop :=
  p.tables.exec = Jvm.exec ∧ c.code = md_cc md ∧ c.maxLocals = md_nL md ∧ meth.sig.returnType = md_ret md ∧ meth.locks = false ∧ s.vm.findClass (md_own md) = some m.cls ∧
  (∀ w ∈ lw_g, w.before args s = true) ∧ va_K E.2.1 clsL (tysE E) s ∧ (∀ x ∈ c.exceptionTable.toList, False) ∧ l.stackTraces = false ∧ inj E ∧
  STs E (AD E s.heap.size) s s.heap ∧ R = rmD d (md_mc md)
def lvc (E : En) (lv : List (Nat × Value)) : List (Nat × Value) := lv.map (fun q => (q.1, cv E q.2))
/-- A PLACE in a method's body: from here it comes to Q or X -/
def B (E : En) (md : MD) (d : Nat) (Q : QT) (X : XT) (pc : Nat) (lv : List (Nat × Value)) (st : List Value) (g : G2) (k : Nat) : Prop :=
  ∀ (p : Program) (l : Launch) (e : Env) (R : Room) (s : State) (m : MethodId) (args : Array Value) (below : List Frame) (meth : Method) (c : Code) (H : Heap) (locs : List Loc) (ls : Array Slot),
    Cx E md d p l R s m args meth c → lv_has ls (md_nL md) (lvc E lv) → va_P E.2.1 clsL (wl E g) H → va_S (AD E s.heap.size) s.heap H locs →
    W p l e R s m args below meth c H locs k (6 * k) (vx_MQ below (QcM E Q s.heap.size) (XcM E X s.heap.size) args s (md_mc md) (6 * md_mc md) (AD E s.heap.size)) (F0 m pc ls (st.map (cv E)))
def lk : List (Nat × Value) → Nat → Option Value
  | [], _ => none
  | (j, v) :: r, i => if j = i then some v else lk r i
def rml : List (Nat × Value) → Nat → List (Nat × Value)
  | [], _ => []
  | (j, v) :: r, i => if j = i then rml r i else (j, v) :: rml r i
def stl : List (Nat × Value) → Nat → Value → List (Nat × Value)
  | [], i, v => [(i, v)]
  | (j, w) :: r, i, v => if j = i then (i, v) :: rml r i else (j, w) :: stl r i v
/-- no longs among the locals -/
def nol : List (Nat × Value) → Bool
  | [] => true
  | (_, v) :: r => (v.category == 1) && nol r
theorem lk_in : ∀ {lv : List (Nat × Value)} {i : Nat} {v : Value}, lk lv i = some v → (i, v) ∈ lv
  | [], i, v, h => by simp [lk] at h
  | (j, w) :: r, i, v, h => by
    simp only [lk] at h
    by_cases hj : j = i
    · rw [if_pos hj] at h; cases h; subst hj; exact List.mem_cons_self
    · rw [if_neg hj] at h; exact List.mem_cons_of_mem _ (lk_in h)
theorem lk_has {E : En} {ls : Array Slot} {n i : Nat} {lv : List (Nat × Value)} {v : Value} (h : lv_has ls n (lvc E lv)) (hk : lk lv i = some v) : ls[i]? = some (.val (cv E v)) :=
  h.2.2 (i, cv E v) (List.mem_map.mpr ⟨(i, v), lk_in hk, rfl⟩)
theorem rml_in : ∀ {lv : List (Nat × Value)} {i : Nat} {q : Nat × Value}, q ∈ rml lv i → q ∈ lv ∧ q.1 ≠ i
  | [], i, q, h => by simp [rml] at h
  | (j, w) :: r, i, q, h => by
    simp only [rml] at h
    by_cases hj : j = i
    · rw [if_pos hj] at h; have := rml_in h; exact ⟨List.mem_cons_of_mem _ this.1, this.2⟩
    · rw [if_neg hj] at h
      rcases List.mem_cons.mp h with h1 | h1
      · rw [h1]; exact ⟨List.mem_cons_self, hj⟩
      · have := rml_in h1; exact ⟨List.mem_cons_of_mem _ this.1, this.2⟩
theorem stl_in : ∀ {lv : List (Nat × Value)} {i : Nat} {v : Value} {q : Nat × Value}, q ∈ stl lv i v → q = (i, v) ∨ (q ∈ lv ∧ q.1 ≠ i)
  | [], i, v, q, h => by simp [stl] at h; exact Or.inl h
  | (j, w) :: r, i, v, q, h => by
    simp only [stl] at h
    by_cases hj : j = i
    · rw [if_pos hj] at h
      rcases List.mem_cons.mp h with h1 | h1
      · exact Or.inl h1
      · have := rml_in h1; exact Or.inr ⟨List.mem_cons_of_mem _ this.1, this.2⟩
    · rw [if_neg hj] at h
      rcases List.mem_cons.mp h with h1 | h1
      · rw [h1]; exact Or.inr ⟨List.mem_cons_self, hj⟩
      · rcases stl_in h1 with h2 | h2
        · exact Or.inl h2
        · exact Or.inr ⟨List.mem_cons_of_mem _ h2.1, h2.2⟩
theorem nol_in : ∀ {lv : List (Nat × Value)}, nol lv = true → ∀ q ∈ lv, q.2.category = 1
  | [], _, q, h => by cases h
  | (j, w) :: r, hn, q, h => by
    simp only [nol, Bool.and_eq_true, beq_iff_eq] at hn
    rcases List.mem_cons.mp h with h1 | h1
    · rw [h1]; exact hn.1
    · exact nol_in hn.2 q h1
theorem cv_cat (E : En) (v : Value) : (cv E v).category = v.category := by cases v <;> rfl
theorem stl_has {E : En} {ls' : Array Slot} {n i : Nat} {lv : List (Nat × Value)} {v : Value} (hn : nol lv = true)
    (h : lv_has ls' n ((i, cv E v) :: (lvc E lv).filter (fun q => !(q.1 == i) && !(q.1 + 1 == i && q.2.category == 2)))) : lv_has ls' n (lvc E (stl lv i v)) := by
  refine ⟨h.1, h.2.1, fun q hq => h.2.2 q ?_⟩
  obtain ⟨q0, hq0, rfl⟩ := List.mem_map.mp hq
  rcases stl_in hq0 with h1 | ⟨h1, h2⟩
  · rw [h1]; exact List.mem_cons_self
  · refine List.mem_cons_of_mem _ (List.mem_filter.mpr ⟨List.mem_map.mpr ⟨q0, h1, rfl⟩, ?_⟩)
    have hc := nol_in hn q0 h1
    simp [h2, cv_cat, hc]
section Rules
variable {E : En} {md : MD} {d : Nat} {Q : QT} {X : XT} {pc : Nat} {lv lv' : List (Nat × Value)} {st : List Value} {g : G2} {k : Nat}
/-- a method's contract, out of its body -/
theorem M.of (As : List Value) (hy : plainName (md_y md).cls = true) (ho : (md_y md).cls = md_own md) (hl : (lg_sl As).length ≤ md_nL md) (hb : B E md d Q X 0 (lv_args 0 As) [] g 0) : M E md d As g Q X := by
  intro l hl0 sz
  refine vx_ofW (cc := md_cc md) (maxL := md_nL md) (ret := md_ret md) hy rfl ?_
  intro p e s m args below meth c s₁ Bd hml ht hv
  obtain ⟨rfl, hsz, hP, hK, hi, hS⟩ := hv
  subst hsz
  have hts : ∀ w ∈ lw_g, w.before ((As.map (cv E)).toArray) s = true := fun w hw => atoms_spec (ws := md_ws md) Bd.pre w (List.mem_cons_of_mem _ hw)
  have hown : s.vm.findClass (md_own md) = some m.cls := by rw [← ho]; exact findClass_of_methodNamed Bd.named
  have hlen : (lg_sl (As.map (cv E))).length = (lg_sl As).length := by
    clear hl hb hts Bd hP
    induction As with
    | nil => rfl
    | cons a r ih =>
      simp only [lg_sl, List.map_cons, List.flatMap_cons, List.length_append] at ih ⊢
      rw [ih, cv_cat]
      by_cases h : a.category = 2 <;> simp [h]
  have hlv := lv_entry (As.map (cv E)) (n := md_nL md) (by rw [hlen]; exact hl)
  rw [lg_entry_eq]
  have hla : ∀ (n : Nat) (vs : List Value), lv_args n (vs.map (cv E)) = lvc E (lv_args n vs) := by
    intro n vs
    induction vs generalizing n with
    | nil => rfl
    | cons a r ih =>
      simp only [List.map_cons, lv_args, lvc, cv_cat]
      rw [ih]
      rfl
  rw [hla] at hlv
  exact hb p l e _ s m _ below meth c s.heap [] _ ⟨Bd.exec, Bd.bytes, hml, Bd.returns, Bd.notSynchronized, hown, hts, hK, ht, hl0, hi, hS, rfl⟩ hlv hP va_S.rf
end Rules
