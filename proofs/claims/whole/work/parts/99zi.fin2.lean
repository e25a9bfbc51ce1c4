theorem fin_1 {E : En} {f1 f2 : Nat → Nat} {o : Nat} {cL : ClassId} {v : Nat → Int64} {H : Heap} (hP : va_P E.2.1 clsL (wsA E o cL v f1 f2) H) : allP (fun i => (∃ e, (wsA E o cL v f1 f2)[nthN posL i 0]? = some ((adE E f1 f2).1 i, e)) ∧ va_at E.2.1 clsL ((adE E f1 f2).1 i, cel (adE E f1 f2) g0 i) H) 16 16 := by
  refine ⟨⟨⟨_, rfl⟩, hP 13 _ rfl⟩, ⟨⟨_, rfl⟩, hP 14 _ rfl⟩, ⟨⟨_, rfl⟩, hP 18 _ rfl⟩, ⟨⟨_, rfl⟩, hP 19 _ rfl⟩, ⟨⟨_, rfl⟩, hP 20 _ rfl⟩, ⟨⟨_, rfl⟩, hP 21 _ rfl⟩, ⟨⟨_, rfl⟩, hP 22 _ rfl⟩, ⟨⟨_, rfl⟩, hP 23 _ rfl⟩, ⟨⟨_, rfl⟩, hP 24 _ rfl⟩, ⟨⟨_, rfl⟩, hP 25 _ rfl⟩, ⟨⟨_, rfl⟩, hP 26 _ rfl⟩, ⟨⟨_, rfl⟩, hP 27 _ rfl⟩, ⟨⟨_, rfl⟩, hP 28 _ rfl⟩, ⟨⟨_, rfl⟩, hP 29 _ rfl⟩, ⟨⟨_, rfl⟩, hP 30 _ rfl⟩, ⟨⟨_, rfl⟩, hP 31 _ rfl⟩, trivial⟩
theorem fin_2 {E : En} {f1 f2 : Nat → Nat} {o : Nat} {cL : ClassId} {v : Nat → Int64} {H : Heap} (hP : va_P E.2.1 clsL (wsA E o cL v f1 f2) H) : allP (fun i => (∃ e, (wsA E o cL v f1 f2)[nthN posL i 0]? = some ((adE E f1 f2).1 i, e)) ∧ va_at E.2.1 clsL ((adE E f1 f2).1 i, cel (adE E f1 f2) g0 i) H) 16 32 := by
  refine ⟨⟨⟨_, rfl⟩, hP 32 _ rfl⟩, ⟨⟨_, rfl⟩, hP 33 _ rfl⟩, ⟨⟨_, rfl⟩, hP 34 _ rfl⟩, ⟨⟨_, rfl⟩, hP 35 _ rfl⟩, ⟨⟨_, rfl⟩, hP 36 _ rfl⟩, ⟨⟨_, rfl⟩, hP 37 _ rfl⟩, ⟨⟨_, rfl⟩, hP 38 _ rfl⟩, ⟨⟨_, rfl⟩, hP 39 _ rfl⟩, ⟨⟨_, rfl⟩, hP 40 _ rfl⟩, ⟨⟨_, rfl⟩, hP 64 _ rfl⟩, ⟨⟨_, rfl⟩, hP 65 _ rfl⟩, ⟨⟨_, rfl⟩, hP 66 _ rfl⟩, ⟨⟨_, rfl⟩, hP 67 _ rfl⟩, ⟨⟨_, rfl⟩, hP 68 _ rfl⟩, ⟨⟨_, rfl⟩, hP 69 _ rfl⟩, ⟨⟨_, rfl⟩, hP 70 _ rfl⟩, trivial⟩
theorem fin_3 {E : En} {f1 f2 : Nat → Nat} {o : Nat} {cL : ClassId} {v : Nat → Int64} {H : Heap} (hP : va_P E.2.1 clsL (wsA E o cL v f1 f2) H) : allP (fun i => (∃ e, (wsA E o cL v f1 f2)[nthN posL i 0]? = some ((adE E f1 f2).1 i, e)) ∧ va_at E.2.1 clsL ((adE E f1 f2).1 i, cel (adE E f1 f2) g0 i) H) 16 48 := by
  refine ⟨⟨⟨_, rfl⟩, hP 71 _ rfl⟩, ⟨⟨_, rfl⟩, hP 72 _ rfl⟩, ⟨⟨_, rfl⟩, hP 73 _ rfl⟩, ⟨⟨_, rfl⟩, hP 48 _ rfl⟩, ⟨⟨_, rfl⟩, hP 49 _ rfl⟩, ⟨⟨_, rfl⟩, hP 50 _ rfl⟩, ⟨⟨_, rfl⟩, hP 51 _ rfl⟩, ⟨⟨_, rfl⟩, hP 52 _ rfl⟩, ⟨⟨_, rfl⟩, hP 53 _ rfl⟩, ⟨⟨_, rfl⟩, hP 54 _ rfl⟩, ⟨⟨_, rfl⟩, hP 55 _ rfl⟩, ⟨⟨_, rfl⟩, hP 56 _ rfl⟩, ⟨⟨_, rfl⟩, hP 57 _ rfl⟩, ⟨⟨_, rfl⟩, hP 41 _ rfl⟩, ⟨⟨_, rfl⟩, hP 42 _ rfl⟩, ⟨⟨_, rfl⟩, hP 58 _ rfl⟩, trivial⟩
theorem fin_4 {E : En} {f1 f2 : Nat → Nat} {o : Nat} {cL : ClassId} {v : Nat → Int64} {H : Heap} (hP : va_P E.2.1 clsL (wsA E o cL v f1 f2) H) : allP (fun i => (∃ e, (wsA E o cL v f1 f2)[nthN posL i 0]? = some ((adE E f1 f2).1 i, e)) ∧ va_at E.2.1 clsL ((adE E f1 f2).1 i, cel (adE E f1 f2) g0 i) H) 16 64 := by
  refine ⟨⟨⟨_, rfl⟩, hP 59 _ rfl⟩, ⟨⟨_, rfl⟩, hP 43 _ rfl⟩, ⟨⟨_, rfl⟩, hP 44 _ rfl⟩, ⟨⟨_, rfl⟩, hP 45 _ rfl⟩, ⟨⟨_, rfl⟩, hP 60 _ rfl⟩, ⟨⟨_, rfl⟩, hP 61 _ rfl⟩, ⟨⟨_, rfl⟩, hP 62 _ rfl⟩, ⟨⟨_, rfl⟩, hP 46 _ rfl⟩, ⟨⟨_, rfl⟩, hP 47 _ rfl⟩, ⟨⟨_, rfl⟩, hP 63 _ rfl⟩, ⟨⟨_, rfl⟩, hP 74 _ rfl⟩, ⟨⟨_, rfl⟩, hP 75 _ rfl⟩, ⟨⟨_, rfl⟩, hP 76 _ rfl⟩, ⟨⟨_, rfl⟩, hP 77 _ rfl⟩, ⟨⟨_, rfl⟩, hP 78 _ rfl⟩, ⟨⟨_, rfl⟩, hP 79 _ rfl⟩, trivial⟩
theorem fin_5 {E : En} {f1 f2 : Nat → Nat} {o : Nat} {cL : ClassId} {v : Nat → Int64} {H : Heap} (hP : va_P E.2.1 clsL (wsA E o cL v f1 f2) H) : allP (fun i => (∃ e, (wsA E o cL v f1 f2)[nthN posL i 0]? = some ((adE E f1 f2).1 i, e)) ∧ va_at E.2.1 clsL ((adE E f1 f2).1 i, cel (adE E f1 f2) g0 i) H) 16 80 := by
  refine ⟨⟨⟨_, rfl⟩, hP 80 _ rfl⟩, ⟨⟨_, rfl⟩, hP 81 _ rfl⟩, ⟨⟨_, rfl⟩, hP 82 _ rfl⟩, ⟨⟨_, rfl⟩, hP 83 _ rfl⟩, ⟨⟨_, rfl⟩, hP 84 _ rfl⟩, ⟨⟨_, rfl⟩, ?_⟩, ⟨⟨_, rfl⟩, ?_⟩, ⟨⟨_, rfl⟩, hP 87 _ rfl⟩, ⟨⟨_, rfl⟩, hP 88 _ rfl⟩, ⟨⟨_, rfl⟩, hP 89 _ rfl⟩, ⟨⟨_, rfl⟩, hP 90 _ rfl⟩, ⟨⟨_, rfl⟩, hP 91 _ rfl⟩, ⟨⟨_, rfl⟩, hP 92 _ rfl⟩, ⟨⟨_, rfl⟩, hP 93 _ rfl⟩, ⟨⟨_, rfl⟩, hP 94 _ rfl⟩, ⟨⟨_, rfl⟩, hP 95 _ rfl⟩, trivial⟩
  · refine at_str (hP 85 _ rfl) (fun j hj => ?_)
    have hj : j < 4 := hj
    rw [adE_s _ (by omega)]
    rcases (by omega : j = 0 ∨ j = 1 ∨ j = 2 ∨ j = 3) with rfl | rfl | rfl | rfl
    · rfl
    · rfl
    · rfl
    · rfl
  · refine at_str (hP 86 _ rfl) (fun j hj => ?_)
    have hj : j < 7 := hj
    rw [adE_s _ (by omega)]
    rcases (by omega : j = 0 ∨ j = 1 ∨ j = 2 ∨ j = 3 ∨ j = 4 ∨ j = 5 ∨ j = 6) with rfl | rfl | rfl | rfl | rfl | rfl | rfl
    · rfl
    · rfl
    · rfl
    · rfl
    · rfl
    · rfl
    · rfl
theorem fin_6 {E : En} {f1 f2 : Nat → Nat} {o : Nat} {cL : ClassId} {v : Nat → Int64} {H : Heap} (hP : va_P E.2.1 clsL (wsA E o cL v f1 f2) H) : allP (fun i => (∃ e, (wsA E o cL v f1 f2)[nthN posL i 0]? = some ((adE E f1 f2).1 i, e)) ∧ va_at E.2.1 clsL ((adE E f1 f2).1 i, cel (adE E f1 f2) g0 i) H) 16 96 := by
  refine ⟨⟨⟨_, rfl⟩, hP 96 _ rfl⟩, ⟨⟨_, rfl⟩, hP 97 _ rfl⟩, ⟨⟨_, rfl⟩, hP 98 _ rfl⟩, ⟨⟨_, rfl⟩, hP 99 _ rfl⟩, ⟨⟨_, rfl⟩, hP 100 _ rfl⟩, ⟨⟨_, rfl⟩, hP 101 _ rfl⟩, ⟨⟨_, rfl⟩, hP 102 _ rfl⟩, ⟨⟨_, rfl⟩, hP 103 _ rfl⟩, ⟨⟨_, rfl⟩, hP 104 _ rfl⟩, ⟨⟨_, rfl⟩, hP 105 _ rfl⟩, ⟨⟨_, rfl⟩, hP 106 _ rfl⟩, ⟨⟨_, rfl⟩, hP 107 _ rfl⟩, ⟨⟨_, rfl⟩, hP 108 _ rfl⟩, ⟨⟨_, rfl⟩, hP 109 _ rfl⟩, ⟨⟨_, rfl⟩, hP 110 _ rfl⟩, ⟨⟨_, rfl⟩, hP 111 _ rfl⟩, trivial⟩
theorem fin_7 {E : En} {f1 f2 : Nat → Nat} {o : Nat} {cL : ClassId} {v : Nat → Int64} {H : Heap} (hP : va_P E.2.1 clsL (wsA E o cL v f1 f2) H) : allP (fun i => (∃ e, (wsA E o cL v f1 f2)[nthN posL i 0]? = some ((adE E f1 f2).1 i, e)) ∧ va_at E.2.1 clsL ((adE E f1 f2).1 i, cel (adE E f1 f2) g0 i) H) 15 112 := by
  refine ⟨⟨⟨_, rfl⟩, hP 112 _ rfl⟩, ⟨⟨_, rfl⟩, hP 113 _ rfl⟩, ⟨⟨_, rfl⟩, hP 114 _ rfl⟩, ⟨⟨_, rfl⟩, hP 115 _ rfl⟩, ⟨⟨_, rfl⟩, hP 116 _ rfl⟩, ⟨⟨_, rfl⟩, hP 117 _ rfl⟩, ⟨⟨_, rfl⟩, hP 118 _ rfl⟩, ⟨⟨_, rfl⟩, hP 119 _ rfl⟩, ⟨⟨_, rfl⟩, hP 120 _ rfl⟩, ⟨⟨_, rfl⟩, hP 121 _ rfl⟩, ⟨⟨_, rfl⟩, hP 122 _ rfl⟩, ⟨⟨_, rfl⟩, hP 123 _ rfl⟩, ⟨⟨_, rfl⟩, hP 124 _ rfl⟩, ⟨⟨_, rfl⟩, hP 125 _ rfl⟩, ⟨⟨_, rfl⟩, hP 126 _ rfl⟩, trivial⟩
