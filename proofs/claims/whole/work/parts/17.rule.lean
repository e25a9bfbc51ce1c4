/-- as vx_ofW, of a member that the machine has no entry for -/
theorem vx_ofWF {l : Launch} {y : MethodName} {ws ws' : List Cond} {rm : Room} {Pc : Array Value → State → Prop} {Qc : Array Value → State → Outcome → State → Prop} {XC : String → State → State → Prop} {mc ms : Nat} {free : Addr → Prop} {cc : ByteArray} {maxL : Nat} {ret : Option FieldType}
    (hy : plainFor y = true) (hw : ws = Cond.code y cc maxL ret :: ws')
    (body : ∀ p e s m args below meth c s₁, BodyLoose p l y (headSpec ws rm) cc maxL ret e s m args below meth c s₁ → c.maxLocals = maxL → (∀ x ∈ c.exceptionTable.toList, False) → Pc args s →
      W p l e (headSpec ws rm).room s m args below meth c s.heap [] 0 0 (vx_MQ below Qc XC args s mc ms free) (entryFrame m args maxL)) : vx_Met l y ws rm Pc Qc XC mc ms free := by
  refine MetFree.of_bodySF (code := cc) (maxLocals := maxL) (ret := ret) hy ?_ ?_
  · intro args s m h hn
    obtain ⟨meth, c, h1, h2, h3, h4, h5, h6, -, -⟩ := Cond.code_spec hn (atoms_spec (ws := ws) h _ (by rw [hw]; exact List.mem_cons_self))
    exact ⟨meth, c, h1, h2, h3, h4, h5, h6⟩
  · intro p e s m args below meth c s₁ B hml hP _
    have hh0 : s₁.heap = s.heap := by rw [B.state]; rfl
    have ht : ∀ x ∈ c.exceptionTable.toList, False := by
      obtain ⟨meth9, c9, h1, h2, -, -, -, -, h7, -⟩ := Cond.code_spec B.named (atoms_spec (ws := ws) B.pre _ (by rw [hw]; exact List.mem_cons_self))
      cases Option.some.inj (h1.symm.trans B.method)
      cases Option.some.inj (h2.symm.trans (Stand.of_body B).code)
      intro x hx
      rw [Array.isEmpty_iff.mp h7] at hx
      cases hx
    obtain ⟨t, a1, o, b1, b2, b3⟩ := body p e s m args below meth c s₁ B hml ht hP s₁ hh0 (Stand.of_body B)
    exact ⟨t, o, a1, b1, b2, b3⟩
/-- a method's contract, out of its body -/
theorem M.ofF {E : En} {md : MD} {d : Nat} {Q : QT} {X : XT} {g : G2} (As : List Value) (hy : plainFor (md_y md) = true) (ho : (md_y md).cls = md_own md) (hl : (lg_sl As).length ≤ md_nL md) (hb : B E md d Q X 0 (lv_args 0 As) [] g 0) : M E md d As g Q X := by
  intro l hl0 sz
  refine vx_ofWF (cc := md_cc md) (maxL := md_nL md) (ret := md_ret md) hy rfl ?_
  intro p e s m args below meth c s₁ Bd hml ht hv
  obtain ⟨rfl, hsz, hP, hK, hi, hS⟩ := hv
  subst hsz
  have hts : ∀ w ∈ lw_g, w.before ((As.map (cv E)).toArray) s = true := fun w hw => atoms_spec (ws := md_ws md) Bd.pre w (List.mem_cons_of_mem _ hw)
  have hown : s.vm.findClass (md_own md) = some m.cls := by rw [← ho]; exact findClass_of_methodNamed Bd.named
  have hlen : (lg_sl (As.map (cv E))).length = (lg_sl As).length := by
    clear hl hb hts Bd hP
    induction As with
    | nil => rfl
    | cons a r ih =>
      simp only [lg_sl, List.map_cons, List.flatMap_cons, List.length_append] at ih ⊢
      rw [ih, cv_cat]
      by_cases h : a.category = 2 <;> simp [h]
  have hlv := lv_entry (As.map (cv E)) (n := md_nL md) (by rw [hlen]; exact hl)
  rw [lg_entry_eq]
  have hla : ∀ (n : Nat) (vs : List Value), lv_args n (vs.map (cv E)) = lvc E (lv_args n vs) := by
    intro n vs
    induction vs generalizing n with
    | nil => rfl
    | cons a r ih =>
      simp only [List.map_cons, lv_args, lvc, cv_cat]
      rw [ih]
      rfl
  rw [hla] at hlv
  exact hb p l e _ s m _ below meth c s.heap [] _ ⟨Bd.exec, Bd.bytes, hml, Bd.returns, Bd.notSynchronized, hown, hts, hK, ht, hl0, hi, hS, rfl⟩ hlv hP va_S.rf

def apC (op l r : Int32) : Int32 :=
  if op = 42 then l * r else if op = 43 then l + r else if op = 45 then l - r else if op = 60 then (if l < r then 1 else 0) else if op = 61 then (if l = r then 1 else 0)
  else if op = 107 then (if ¬ l = 0 ∨ ¬ r = 0 then 1 else 0) else if op = 108 then (if ¬ l = 0 ∧ ¬ r = 0 then 1 else 0) else if r = 0 then 0 else l / r
theorem c_X8_apply {E : En} {d : Nat} {Q : QT} {X : XT} {g : G2} {op l r : Int32} (hq : Q (some (.int (apC op l r))) g) : M E md_X8_apply d [.int op, .int l, .int r] g Q X := by
  refine M.of _ rfl rfl (Nat.le_of_ble_eq_true rfl) ?_
  refine b_iload_n dX8_apply_0 rfl rfl ?_
  by_cases k42 : op = 42
  · subst k42
    have hq : Q (some (.int (apC 42 l r))) g := hq
    unfold apC at hq
    refine b_lookup (off := 125) (tgt := 126) dX8_apply_1 (by decide +kernel) (by decide +kernel) (by decide) ?_
    refine b_iload_n dX8_apply_126 rfl rfl ?_
    refine b_iload_n dX8_apply_127 rfl rfl ?_
    refine b_imul dX8_apply_128 ?_
    refine b_iret rfl (by decide) dX8_apply_129 ?_
    first
      | exact hq
      | (rw [if_neg h131] at hq; exact hq)
      | (rw [if_pos h131] at hq; exact hq)
      | (simp at hq; exact hq)
      | (simp at hq; grind)
      | (rw [if_neg h131] at hq; exact hq)
      | (rw [if_pos h131] at hq; exact hq)
  by_cases k43 : op = 43
  · subst k43
    have hq : Q (some (.int (apC 43 l r))) g := hq
    unfold apC at hq
    refine b_lookup (off := 117) (tgt := 118) dX8_apply_1 (by decide +kernel) (by decide +kernel) (by decide) ?_
    refine b_iload_n dX8_apply_118 rfl rfl ?_
    refine b_iload_n dX8_apply_119 rfl rfl ?_
    refine b_iadd dX8_apply_120 ?_
    refine b_iret rfl (by decide) dX8_apply_121 ?_
    first
      | exact hq
      | (rw [if_neg h131] at hq; exact hq)
      | (rw [if_pos h131] at hq; exact hq)
      | (simp at hq; exact hq)
      | (simp at hq; grind)
      | (rw [if_neg h131] at hq; exact hq)
      | (rw [if_pos h131] at hq; exact hq)
  by_cases k45 : op = 45
  · subst k45
    have hq : Q (some (.int (apC 45 l r))) g := hq
    unfold apC at hq
    refine b_lookup (off := 121) (tgt := 122) dX8_apply_1 (by decide +kernel) (by decide +kernel) (by decide) ?_
    refine b_iload_n dX8_apply_122 rfl rfl ?_
    refine b_iload_n dX8_apply_123 rfl rfl ?_
    refine b_isub dX8_apply_124 ?_
    refine b_iret rfl (by decide) dX8_apply_125 ?_
    first
      | exact hq
      | (rw [if_neg h131] at hq; exact hq)
      | (rw [if_pos h131] at hq; exact hq)
      | (simp at hq; exact hq)
      | (simp at hq; grind)
      | (rw [if_neg h131] at hq; exact hq)
      | (rw [if_pos h131] at hq; exact hq)
  by_cases k60 : op = 60
  · subst k60
    have hq : Q (some (.int (apC 60 l r))) g := hq
    unfold apC at hq
    refine b_lookup (off := 95) (tgt := 96) dX8_apply_1 (by decide +kernel) (by decide +kernel) (by decide) ?_
    refine b_iload_n dX8_apply_96 rfl rfl ?_
    refine b_iload_n dX8_apply_97 rfl rfl ?_
    refine b_icmp_ge (tgt := 105) dX8_apply_98 (by decide) (fun h98 => ?_) (fun h98 => ?_)
    · refine b_iconst (v := 0) dX8_apply_105 (by decide +kernel) ?_
      refine b_iret rfl (by decide) dX8_apply_106 ?_
      first
        | exact hq
        | (rw [if_neg h131] at hq; exact hq)
        | (rw [if_pos h131] at hq; exact hq)
        | (simp at hq; exact hq)
        | (simp at hq; grind)
        | (rw [if_neg h131] at hq; exact hq)
        | (rw [if_pos h131] at hq; exact hq)
    · refine b_iconst (v := 1) dX8_apply_101 (by decide +kernel) ?_
      refine b_goto (tgt := 106) dX8_apply_102 (by decide) ?_
      refine b_iret rfl (by decide) dX8_apply_106 ?_
      first
        | exact hq
        | (rw [if_neg h131] at hq; exact hq)
        | (rw [if_pos h131] at hq; exact hq)
        | (simp at hq; exact hq)
        | (simp at hq; grind)
        | (rw [if_neg h131] at hq; exact hq)
        | (rw [if_pos h131] at hq; exact hq)
  by_cases k61 : op = 61
  · subst k61
    have hq : Q (some (.int (apC 61 l r))) g := hq
    unfold apC at hq
    refine b_lookup (off := 106) (tgt := 107) dX8_apply_1 (by decide +kernel) (by decide +kernel) (by decide) ?_
    refine b_iload_n dX8_apply_107 rfl rfl ?_
    refine b_iload_n dX8_apply_108 rfl rfl ?_
    refine b_icmp_ne (tgt := 116) dX8_apply_109 (by decide) (fun h109 => ?_) (fun h109 => ?_)
    · refine b_iconst (v := 0) dX8_apply_116 (by decide +kernel) ?_
      refine b_iret rfl (by decide) dX8_apply_117 ?_
      first
        | exact hq
        | (rw [if_neg h131] at hq; exact hq)
        | (rw [if_pos h131] at hq; exact hq)
        | (simp at hq; exact hq)
        | (simp at hq; grind)
        | (rw [if_neg h131] at hq; exact hq)
        | (rw [if_pos h131] at hq; exact hq)
    · refine b_iconst (v := 1) dX8_apply_112 (by decide +kernel) ?_
      refine b_goto (tgt := 117) dX8_apply_113 (by decide) ?_
      refine b_iret rfl (by decide) dX8_apply_117 ?_
      first
        | exact hq
        | (rw [if_neg h131] at hq; exact hq)
        | (rw [if_pos h131] at hq; exact hq)
        | (simp at hq; exact hq)
        | (simp at hq; grind)
        | (rw [if_neg h131] at hq; exact hq)
        | (rw [if_pos h131] at hq; exact hq)
  by_cases k107 : op = 107
  · subst k107
    have hq : Q (some (.int (apC 107 l r))) g := hq
    unfold apC at hq
    refine b_lookup (off := 67) (tgt := 68) dX8_apply_1 (by decide +kernel) (by decide +kernel) (by decide) ?_
    refine b_iload_n dX8_apply_68 rfl rfl ?_
    refine b_if_ne (tgt := 76) dX8_apply_69 (by decide) (fun h69 => ?_) (fun h69 => ?_)
    · refine b_iconst (v := 1) dX8_apply_76 (by decide +kernel) ?_
      refine b_goto (tgt := 81) dX8_apply_77 (by decide) ?_
      refine b_iret rfl (by decide) dX8_apply_81 ?_
      first
        | exact hq
        | (rw [if_neg h131] at hq; exact hq)
        | (rw [if_pos h131] at hq; exact hq)
        | (simp at hq; exact hq)
        | (simp at hq; grind)
        | (rw [if_neg h131] at hq; exact hq)
        | (rw [if_pos h131] at hq; exact hq)
    · refine b_iload_n dX8_apply_72 rfl rfl ?_
      refine b_if_eq (tgt := 80) dX8_apply_73 (by decide) (fun h73 => ?_) (fun h73 => ?_)
      · refine b_iconst (v := 0) dX8_apply_80 (by decide +kernel) ?_
        refine b_iret rfl (by decide) dX8_apply_81 ?_
        first
          | exact hq
          | (rw [if_neg h131] at hq; exact hq)
          | (rw [if_pos h131] at hq; exact hq)
          | (simp at hq; exact hq)
          | (simp at hq; grind)
          | (rw [if_neg h131] at hq; exact hq)
          | (rw [if_pos h131] at hq; exact hq)
      · refine b_iconst (v := 1) dX8_apply_76 (by decide +kernel) ?_
        refine b_goto (tgt := 81) dX8_apply_77 (by decide) ?_
        refine b_iret rfl (by decide) dX8_apply_81 ?_
        first
          | exact hq
          | (rw [if_neg h131] at hq; exact hq)
          | (rw [if_pos h131] at hq; exact hq)
          | (simp at hq; exact hq)
          | (simp at hq; grind)
          | (rw [if_neg h131] at hq; exact hq)
          | (rw [if_pos h131] at hq; exact hq)
  by_cases k108 : op = 108
  · subst k108
    have hq : Q (some (.int (apC 108 l r))) g := hq
    unfold apC at hq
    refine b_lookup (off := 81) (tgt := 82) dX8_apply_1 (by decide +kernel) (by decide +kernel) (by decide) ?_
    refine b_iload_n dX8_apply_82 rfl rfl ?_
    refine b_if_eq (tgt := 94) dX8_apply_83 (by decide) (fun h83 => ?_) (fun h83 => ?_)
    · refine b_iconst (v := 0) dX8_apply_94 (by decide +kernel) ?_
      refine b_iret rfl (by decide) dX8_apply_95 ?_
      first
        | exact hq
        | (rw [if_neg h131] at hq; exact hq)
        | (rw [if_pos h131] at hq; exact hq)
        | (simp at hq; exact hq)
        | (simp at hq; grind)
        | (rw [if_neg h131] at hq; exact hq)
        | (rw [if_pos h131] at hq; exact hq)
    · refine b_iload_n dX8_apply_86 rfl rfl ?_
      refine b_if_eq (tgt := 94) dX8_apply_87 (by decide) (fun h87 => ?_) (fun h87 => ?_)
      · refine b_iconst (v := 0) dX8_apply_94 (by decide +kernel) ?_
        refine b_iret rfl (by decide) dX8_apply_95 ?_
        first
          | exact hq
          | (rw [if_neg h131] at hq; exact hq)
          | (rw [if_pos h131] at hq; exact hq)
          | (simp at hq; exact hq)
          | (simp at hq; grind)
          | (rw [if_neg h131] at hq; exact hq)
          | (rw [if_pos h131] at hq; exact hq)
      · refine b_iconst (v := 1) dX8_apply_90 (by decide +kernel) ?_
        refine b_goto (tgt := 95) dX8_apply_91 (by decide) ?_
        refine b_iret rfl (by decide) dX8_apply_95 ?_
        first
          | exact hq
          | (rw [if_neg h131] at hq; exact hq)
          | (rw [if_pos h131] at hq; exact hq)
          | (simp at hq; exact hq)
          | (simp at hq; grind)
          | (rw [if_neg h131] at hq; exact hq)
          | (rw [if_pos h131] at hq; exact hq)
  have hq : Q (some (.int (apC op l r))) g := hq
  unfold apC at hq
  rw [if_neg k42, if_neg k43, if_neg k45, if_neg k60, if_neg k61, if_neg k107, if_neg k108] at hq
  refine b_lookup (off := 129) (tgt := 130) dX8_apply_1 (by decide +kernel) ?_ (by decide) ?_
  · show Op.lookupswitch.offset [(42, 125), (43, 117), (45, 121), (60, 95), (61, 106), (107, 67), (108, 81)] 129 (op).toInt = 129
    rw [lv_osw k42 (by decide +kernel), lv_osw k43 (by decide +kernel), lv_osw k45 (by decide +kernel), lv_osw k60 (by decide +kernel), lv_osw k61 (by decide +kernel), lv_osw k107 (by decide +kernel), lv_osw k108 (by decide +kernel)]; rfl
  refine b_iload_n dX8_apply_130 rfl rfl ?_
  refine b_if_ne (tgt := 138) dX8_apply_131 (by decide) (fun h131 => ?_) (fun h131 => ?_)
  · skip
    refine b_iload_n dX8_apply_138 rfl rfl ?_
    refine b_iload_n dX8_apply_139 rfl rfl ?_
    refine b_idiv dX8_apply_140 h131 ?_
    refine b_iret rfl (by decide) dX8_apply_141 ?_
    first
      | exact hq
      | (rw [if_neg h131] at hq; exact hq)
      | (rw [if_pos h131] at hq; exact hq)
      | (simp at hq; exact hq)
      | (simp at hq; grind)
      | (rw [if_neg h131] at hq; exact hq)
      | (rw [if_pos h131] at hq; exact hq)
  · skip
    refine b_iconst (v := 0) dX8_apply_134 (by decide +kernel) ?_
    refine b_goto (tgt := 141) dX8_apply_135 (by decide) ?_
    refine b_iret rfl (by decide) dX8_apply_141 ?_
    first
      | exact hq
      | (rw [if_neg h131] at hq; exact hq)
      | (rw [if_pos h131] at hq; exact hq)
      | (simp at hq; exact hq)
      | (simp at hq; grind)
      | (rw [if_neg h131] at hq; exact hq)
      | (rw [if_pos h131] at hq; exact hq)
def vlC (g : G2) (a t : Nat) (p : Nat) (w : Int32) : Int32 :=
  if w = 110 then g a 5 else if w = 111 then g a 4 else if w = 112 then g (a + 5) p else if w = 113 then (if g a 10 = -1 then g a 5 else g a 10) else if w = 114 then g (a + 4) p else if w = 115 then g (t + 1) p else if w = 116 then g (a + 6) p else 0
theorem c_X5_valueOf {E : En} {d : Nat} {Q : QT} {X : XT} {g : G2} {a t p : Nat} {w : Int32} (ha : is_life a) (ht : is_town t) (hp : p < 8) (hq : Q (some (.int (vlC g a t p w))) g) : M E md_X5_valueOf d [.ref a, .int w, .ref t, .int (nI p)] g Q X := by
  refine M.of _ rfl rfl (Nat.le_of_ble_eq_true rfl) ?_
  refine b_iload_n dX5_valueOf_0 rfl rfl ?_
  by_cases k110 : w = 110
  · subst k110
    have hq : Q (some (.int (vlC g a t p 110))) g := hq
    unfold vlC at hq
    refine b_tableIn (off := 43) (tgt := 44) dX5_valueOf_1 (by decide +kernel) (by decide +kernel) (by decide +kernel) (by decide) ?_
    refine b_aload_n dX5_valueOf_44 rfl rfl ?_
    refine b_getI lf_X5_28 (life_c ha) dX5_valueOf_45 ?_
    refine b_iret rfl (by decide) dX5_valueOf_48 ?_
    first
      | exact hq
      | (rw [if_neg h131] at hq; exact hq)
      | (rw [if_pos h131] at hq; exact hq)
      | (simp at hq; exact hq)
      | (simp at hq; grind)
      | (rw [if_neg h131] at hq; exact hq)
      | (rw [if_pos h131] at hq; exact hq)
  by_cases k111 : w = 111
  · subst k111
    have hq : Q (some (.int (vlC g a t p 111))) g := hq
    unfold vlC at hq
    refine b_tableIn (off := 48) (tgt := 49) dX5_valueOf_1 (by decide +kernel) (by decide +kernel) (by decide +kernel) (by decide) ?_
    refine b_aload_n dX5_valueOf_49 rfl rfl ?_
    refine b_getI lf_X5_25 (life_c ha) dX5_valueOf_50 ?_
    refine b_iret rfl (by decide) dX5_valueOf_53 ?_
    first
      | exact hq
      | (rw [if_neg h131] at hq; exact hq)
      | (rw [if_pos h131] at hq; exact hq)
      | (simp at hq; exact hq)
      | (simp at hq; grind)
      | (rw [if_neg h131] at hq; exact hq)
      | (rw [if_pos h131] at hq; exact hq)
  by_cases k112 : w = 112
  · subst k112
    have hq : Q (some (.int (vlC g a t p 112))) g := hq
    unfold vlC at hq
    refine b_tableIn (off := 53) (tgt := 54) dX5_valueOf_1 (by decide +kernel) (by decide +kernel) (by decide +kernel) (by decide) ?_
    refine b_aload_n dX5_valueOf_54 rfl rfl ?_
    refine b_getR (b := (a + 5)) lf_X5_49 (life_c ha) (life_r12 ha) dX5_valueOf_55 ?_
    refine b_iload_n dX5_valueOf_58 rfl rfl ?_
    refine b_ildN (j := p) dX5_valueOf_59 (rfl) (by rw [(life_n5 ha)]; omega) ?_
    refine b_iret rfl (by decide) dX5_valueOf_60 ?_
    first
      | exact hq
      | (rw [if_neg h131] at hq; exact hq)
      | (rw [if_pos h131] at hq; exact hq)
      | (simp at hq; exact hq)
      | (simp at hq; grind)
      | (rw [if_neg h131] at hq; exact hq)
      | (rw [if_pos h131] at hq; exact hq)
  by_cases k113 : w = 113
  · subst k113
    have hq : Q (some (.int (vlC g a t p 113))) g := hq
    unfold vlC at hq
    refine b_tableIn (off := 60) (tgt := 61) dX5_valueOf_1 (by decide +kernel) (by decide +kernel) (by decide +kernel) (by decide) ?_
    refine b_aload_n dX5_valueOf_61 rfl rfl ?_
    refine b_getI lf_X5_43 (life_c ha) dX5_valueOf_62 ?_
    refine b_iconst (v := (-1)) dX5_valueOf_65 (by decide +kernel) ?_
    refine b_icmp_ne (tgt := 76) dX5_valueOf_66 (by decide) (fun h66 => ?_) (fun h66 => ?_)
    · refine b_aload_n dX5_valueOf_76 rfl rfl ?_
      refine b_getI lf_X5_43 (life_c ha) dX5_valueOf_77 ?_
      refine b_iret rfl (by decide) dX5_valueOf_80 ?_
      first
        | exact hq
        | (rw [if_neg h131] at hq; exact hq)
        | (rw [if_pos h131] at hq; exact hq)
        | (simp at hq; exact hq)
        | (simp at hq; grind)
        | (rw [if_neg h131] at hq; exact hq)
        | (rw [if_pos h131] at hq; exact hq)
    · refine b_aload_n dX5_valueOf_69 rfl rfl ?_
      refine b_getI lf_X5_28 (life_c ha) dX5_valueOf_70 ?_
      refine b_goto (tgt := 80) dX5_valueOf_73 (by decide) ?_
      refine b_iret rfl (by decide) dX5_valueOf_80 ?_
      first
        | exact hq
        | (rw [if_neg h131] at hq; exact hq)
        | (rw [if_pos h131] at hq; exact hq)
        | (simp at hq; exact hq)
        | (simp at hq; grind)
        | (rw [if_neg h131] at hq; exact hq)
        | (rw [if_pos h131] at hq; exact hq)
  by_cases k114 : w = 114
  · subst k114
    have hq : Q (some (.int (vlC g a t p 114))) g := hq
    unfold vlC at hq
    refine b_tableIn (off := 80) (tgt := 81) dX5_valueOf_1 (by decide +kernel) (by decide +kernel) (by decide +kernel) (by decide) ?_
    refine b_aload_n dX5_valueOf_81 rfl rfl ?_
    refine b_getR (b := (a + 4)) lf_X5_46 (life_c ha) (life_r11 ha) dX5_valueOf_82 ?_
    refine b_iload_n dX5_valueOf_85 rfl rfl ?_
    refine b_ildN (j := p) dX5_valueOf_86 (rfl) (by rw [(life_n4 ha)]; omega) ?_
    refine b_iret rfl (by decide) dX5_valueOf_87 ?_
    first
      | exact hq
      | (rw [if_neg h131] at hq; exact hq)
      | (rw [if_pos h131] at hq; exact hq)
      | (simp at hq; exact hq)
      | (simp at hq; grind)
      | (rw [if_neg h131] at hq; exact hq)
      | (rw [if_pos h131] at hq; exact hq)
  by_cases k115 : w = 115
  · subst k115
    have hq : Q (some (.int (vlC g a t p 115))) g := hq
    unfold vlC at hq
    refine b_tableIn (off := 87) (tgt := 88) dX5_valueOf_1 (by decide +kernel) (by decide +kernel) (by decide +kernel) (by decide) ?_
    refine b_aload_n dX5_valueOf_88 rfl rfl ?_
    refine b_getR (b := (t + 1)) lf_X5_70 (town_c ht) (town_r1 ht) dX5_valueOf_89 ?_
    refine b_iload_n dX5_valueOf_92 rfl rfl ?_
    refine b_ildN (j := p) dX5_valueOf_93 (rfl) (by rw [(town_n1 ht)]; omega) ?_
    refine b_iret rfl (by decide) dX5_valueOf_94 ?_
    first
      | exact hq
      | (rw [if_neg h131] at hq; exact hq)
      | (rw [if_pos h131] at hq; exact hq)
      | (simp at hq; exact hq)
      | (simp at hq; grind)
      | (rw [if_neg h131] at hq; exact hq)
      | (rw [if_pos h131] at hq; exact hq)
  by_cases k116 : w = 116
  · subst k116
    have hq : Q (some (.int (vlC g a t p 116))) g := hq
    unfold vlC at hq
    refine b_tableIn (off := 94) (tgt := 95) dX5_valueOf_1 (by decide +kernel) (by decide +kernel) (by decide +kernel) (by decide) ?_
    refine b_aload_n dX5_valueOf_95 rfl rfl ?_
    refine b_getR (b := (a + 6)) lf_X5_52 (life_c ha) (life_r13 ha) dX5_valueOf_96 ?_
    refine b_iload_n dX5_valueOf_99 rfl rfl ?_
    refine b_ildN (j := p) dX5_valueOf_100 (rfl) (by rw [(life_n6 ha)]; omega) ?_
    refine b_iret rfl (by decide) dX5_valueOf_101 ?_
    first
      | exact hq
      | (rw [if_neg h131] at hq; exact hq)
      | (rw [if_pos h131] at hq; exact hq)
      | (simp at hq; exact hq)
      | (simp at hq; grind)
      | (rw [if_neg h131] at hq; exact hq)
      | (rw [if_pos h131] at hq; exact hq)
  have hq : Q (some (.int (vlC g a t p w))) g := hq
  unfold vlC at hq
  rw [if_neg k110, if_neg k111, if_neg k112, if_neg k113, if_neg k114, if_neg k115, if_neg k116] at hq
  refine b_tableOut (tgt := 102) dX5_valueOf_1 ?_ (by decide) ?_
  · have j110 : ¬ (w).toInt = 110 := fun q => k110 (Int32.toInt_inj.mp q); have j111 : ¬ (w).toInt = 111 := fun q => k111 (Int32.toInt_inj.mp q); have j112 : ¬ (w).toInt = 112 := fun q => k112 (Int32.toInt_inj.mp q); have j113 : ¬ (w).toInt = 113 := fun q => k113 (Int32.toInt_inj.mp q); have j114 : ¬ (w).toInt = 114 := fun q => k114 (Int32.toInt_inj.mp q); have j115 : ¬ (w).toInt = 115 := fun q => k115 (Int32.toInt_inj.mp q); have j116 : ¬ (w).toInt = 116 := fun q => k116 (Int32.toInt_inj.mp q); omega
  refine b_iconst (v := 0) dX5_valueOf_102 (by decide +kernel) ?_
  refine b_iret rfl (by decide) dX5_valueOf_103 ?_
  first
    | exact hq
    | (rw [if_neg h131] at hq; exact hq)
    | (rw [if_pos h131] at hq; exact hq)
    | (simp at hq; exact hq)
    | (simp at hq; grind)
    | (rw [if_neg h131] at hq; exact hq)
    | (rw [if_pos h131] at hq; exact hq)
theorem c_X8_put {E : En} {d : Nat} {Q : QT} {X : XT} {g : G2} {a n : Nat} {x : Int32} (ha : is_rule a) (hn : g a 1 = nI n) (h7 : n < 600) (hq : ∀ g2, FR [a, a + 1] g g2 → (∀ j, j ≠ 1 → g2 a j = g a j) → g2 a 1 = nI (n + 1) → (∀ j, j ≠ n → g2 (a + 1) j = g (a + 1) j) → g2 (a + 1) n = x → Q (some (.int 1)) g2) : M E md_X8_put d [.ref a, .int x] g Q X := by
  refine M.of _ rfl rfl (Nat.le_of_ble_eq_true rfl) ?_
  refine b_aload_n dX8_put_0 rfl rfl ?_
  refine b_getI lf_X8_15 (rule_c ha) dX8_put_1 ?_
  refine b_aload_n dX8_put_4 rfl rfl ?_
  refine b_getR (b := (a + 1)) lf_X8_9 (rule_c ha) (rule_r0 ha) dX8_put_5 ?_
  refine b_ilen (n := 600) dX8_put_8 (rule_n1 ha) (by decide) ?_
  refine b_icmp_ge (tgt := 32) dX8_put_9 (by decide) (fun h9 => ?_) (fun h9 => ?_)
  · rw [hn] at h9
    exact absurd ((nI_leI (a := 600) (by decide) (by omega)).mp h9) (by omega)
  · refine b_aload_n dX8_put_12 rfl rfl ?_
    refine b_getR (b := (a + 1)) lf_X8_9 (rule_c ha) (rule_r0 ha) dX8_put_13 ?_
    refine b_aload_n dX8_put_16 rfl rfl ?_
    refine b_getI lf_X8_15 (rule_c ha) dX8_put_17 ?_
    refine b_iload_n dX8_put_20 rfl rfl ?_
    refine b_istN (j := n) dX8_put_21 (hn) (by rw [(rule_n1 ha)]; omega) ?_
    refine b_aload_n dX8_put_22 rfl rfl ?_
    refine b_dup dX8_put_23 rfl ?_
    refine b_getI lf_X8_15 (rule_c ha) dX8_put_24 ?_
    refine b_iconst (v := 1) dX8_put_27 (by decide +kernel) ?_
    refine b_iadd dX8_put_28 ?_
    refine b_putI lf_X8_15 lp_8_1 (rule_c ha) dX8_put_29 ?_
    refine b_iconst (v := 1) dX8_put_32 (by decide +kernel) ?_
    refine b_zret (Or.inr rfl) rfl (by decide) dX8_put_33 ?_
    refine hq _ (by grind [up2, FR]) (by grind [up2]) ?_ (by grind [up2]) (by grind [up2])
    rw [up2_s, up2_a _ _ _ _ (by omega), hn]
    exact nI_1 n
def fmI (x y : Int32) : Int32 := if x ^^^ y < 0 ∧ ¬ rmI x y = 0 then rmI x y + y else rmI x y
theorem c_floorMod {E : En} {d : Nat} {Q : QT} {X : XT} {g : G2} {x y : Int32} (hy : ¬ y = 0) (hq : Q (some (.int (fmI x y))) g) : M E md_J9_floorMod_7cf53 d [.int x, .int y] g Q X := by
  refine M.ofF _ (by decide +kernel) rfl (Nat.le_of_ble_eq_true rfl) ?_
  refine b_iload_n dJ9_floorMod_7cf53_0 rfl rfl ?_
  refine b_iload_n dJ9_floorMod_7cf53_1 rfl rfl ?_
  refine b_irem dJ9_floorMod_7cf53_2 hy ?_
  refine b_istore_n (lv' := [(0, _), (1, _), (2, _)]) dJ9_floorMod_7cf53_3 rfl (by decide) rfl rfl ?_
  refine b_iload_n dJ9_floorMod_7cf53_4 rfl rfl ?_
  refine b_iload_n dJ9_floorMod_7cf53_5 rfl rfl ?_
  refine b_ixor dJ9_floorMod_7cf53_6 ?_
  refine b_if_ge (tgt := 18) dJ9_floorMod_7cf53_7 (by decide) (fun h7 => ?_) (fun h7 => ?_)
  · refine b_iload_n dJ9_floorMod_7cf53_18 rfl rfl ?_
    refine b_iret rfl (by decide) dJ9_floorMod_7cf53_19 ?_
    unfold fmI at hq
    first
      | (rw [if_neg (fun q => absurd q.1 (Int32.not_lt.mpr h7))] at hq; exact hq)
      | (rw [if_neg (fun q => q.2 h11)] at hq; exact hq)
  · refine b_iload_n dJ9_floorMod_7cf53_10 rfl rfl ?_
    refine b_if_eq (tgt := 18) dJ9_floorMod_7cf53_11 (by decide) (fun h11 => ?_) (fun h11 => ?_)
    · refine b_iload_n dJ9_floorMod_7cf53_18 rfl rfl ?_
      refine b_iret rfl (by decide) dJ9_floorMod_7cf53_19 ?_
      unfold fmI at hq
      first
        | (rw [if_neg (fun q => absurd q.1 (Int32.not_lt.mpr h7))] at hq; exact hq)
        | (rw [if_neg (fun q => q.2 h11)] at hq; exact hq)
    · refine b_iload_n dJ9_floorMod_7cf53_14 rfl rfl ?_
      refine b_iload_n dJ9_floorMod_7cf53_15 rfl rfl ?_
      refine b_iadd dJ9_floorMod_7cf53_16 ?_
      refine b_iret rfl (by decide) dJ9_floorMod_7cf53_17 ?_
      unfold fmI at hq; rw [if_pos ⟨Int32.not_le.mp h7, h11⟩] at hq; exact hq
def rpS (f : Nat → Int32) : List Int32 → Prop
  | [] => True
  | x :: r => f r.length = x ∧ rpS f r
theorem rpS_up {f : Nat → Int32} {s : List Int32} {p : Nat} {x : Int32} (h : rpS f s) (hp : s.length ≤ p) : rpS (fun j => if j = p then x else f j) s := by
  induction s with
  | nil => trivial
  | cons y r ih => exact ⟨by show (if r.length = p then x else f r.length) = y; rw [if_neg (by simp at hp; omega)]; exact h.1, ih h.2 (by simp at hp; omega)⟩
theorem rpS_cg {f f2 : Nat → Int32} {s : List Int32} (h : rpS f s) (hp : ∀ j, j < s.length → f2 j = f j) : rpS f2 s := by
  induction s with
  | nil => trivial
  | cons y r ih => exact ⟨by rw [hp _ (by simp)]; exact h.1, ih h.2 (fun j hj => hp j (by simp; omega))⟩
def botS : List Int32 → Int32
  | [] => 0
  | [x] => x
  | _ :: r => botS r
theorem rpS_bot {f : Nat → Int32} : ∀ {s : List Int32}, rpS f s → s ≠ [] → f 0 = botS s
  | [], _, h => absurd rfl h
  | [x], h, _ => h.1
  | x :: y :: r, h, _ => rpS_bot (s := y :: r) h.2 (by simp)
/-- one part of the rule, as the class reckons it, on the stack (the top first) -/
def stC (ask : Int32 → Int32) (x : Int32) (s : List Int32) : List Int32 :=
  if 0 ≤ x then (if s.length < 64 then x :: s else s) else if 110 ≤ -x then (if s.length < 64 then ask (-x) :: s else s)
  else if x = -109 then (match s with | [] => [] | y :: r => (if y = 0 then 1 else 0) :: r)
  else (match s with | y :: z :: r => apC (-x) z y :: r | s => s)
def evC (ask : Int32 → Int32) (c : Nat → Int32) : Nat → List Int32
  | 0 => []
  | k + 1 => stC ask (c k) (evC ask c k)
