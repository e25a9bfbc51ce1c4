/-! the start: what the conditions say of the strings and of the statics -/
def ixC : Nat → Nat → Nat → Cond → Option Cond
  | f + 1, n, k, .and a b => if k < n / 2 then ixC f (n / 2) k a else ixC f (n - n / 2) (k - n / 2) b
  | _, _, _, c => some c
theorem ixC_ok {args : Array Value} {s : State} : ∀ (f n k : Nat) (T c : Cond), T.before args s = true → ixC f n k T = some c → c.before args s = true := by
  intro f
  induction f with
  | zero => intro n k T c h hc; cases hc; exact h
  | succ f ih =>
    intro n k T c h hc
    cases T with
    | and a b =>
      rw [Cond.before_and, Bool.and_eq_true] at h
      simp only [ixC] at hc
      by_cases q : k < n / 2
      · rw [if_pos q] at hc; exact ih _ _ a c h.1 hc
      · rw [if_neg q] at hc; exact ih _ _ b c h.2 hc
    | _ => cases hc; exact h
def narC (k : Nat) : Option Cond := ixC 12 636 k narrow_1
/-- the strings: place, number, class, entry, text, length, bytes, place of its word -/
abbrev SA : Type := Nat × Nat × String × Nat × String × Nat × List Int32 × Nat
def strA : List SA := [(484, 0, "TownTuneModel", 11, "elder", 5, [101, 108, 100, 101, 114], 1372), (494, 1, "TownTuneModel", 13, "child", 5, [99, 104, 105, 108, 100], 1373), (504, 2, "TownTuneModel", 15, "deaf", 4, [100, 101, 97, 102], 1374), (513, 3, "TownTuneModel", 17, "spy", 3, [115, 112, 121], 1375), (521, 4, "TownTuneModel", 23, "year", 4, [121, 101, 97, 114], 1376), (530, 5, "TownTuneModel", 25, "base", 4, [98, 97, 115, 101], 1377), (539, 6, "TownTuneModel", 27, "last", 4, [108, 97, 115, 116], 1378), (548, 7, "TownTuneModel", 29, "key", 3, [107, 101, 121], 1379), (556, 8, "TownTuneModel", 31, "house", 5, [104, 111, 117, 115, 101], 1380), (566, 9, "TownTuneModel", 33, "kind", 4, [107, 105, 110, 100], 1381), (575, 10, "TownTuneModel", 35, "sung", 4, [115, 117, 110, 103], 1382), (37, 11, "TownTune", 97, "the tape has not so many bytes", 30, [116, 104, 101, 32, 116, 97, 112, 101, 32, 104, 97, 115, 32, 110, 111, 116, 32, 115, 111, 32, 109, 97, 110, 121, 32, 98, 121, 116, 101, 115], 825), (71, 12, "TownTune$Tokens", 69, "elder", 5, [101, 108, 100, 101, 114], 884), (80, 13, "TownTune$Tokens", 75, "child", 5, [99, 104, 105, 108, 100], 937), (89, 14, "TownTune$Tokens", 77, "deaf", 4, [100, 101, 97, 102], 938), (97, 15, "TownTune$Tokens", 79, "spy", 3, [115, 112, 121], 939), (104, 16, "TownTune$Tokens", 81, "feud", 4, [102, 101, 117, 100], 940), (112, 17, "TownTune$Tokens", 83, "other", 5, [111, 116, 104, 101, 114], 941), (121, 18, "TownTune$Tokens", 85, "sings", 5, [115, 105, 110, 103, 115], 942), (130, 19, "TownTune$Tokens", 87, "or", 2, [111, 114], 943), (136, 20, "TownTune$Tokens", 89, "and", 3, [97, 110, 100], 944), (143, 21, "TownTune$Tokens", 91, "not", 3, [110, 111, 116], 945), (150, 22, "TownTune$Tokens", 93, "key", 3, [107, 101, 121], 946), (157, 23, "TownTune$Tokens", 95, "year", 4, [121, 101, 97, 114], 947), (165, 24, "TownTune$Tokens", 97, "base", 4, [98, 97, 115, 101], 948), (173, 25, "TownTune$Tokens", 99, "last", 4, [108, 97, 115, 116], 949), (181, 26, "TownTune$Tokens", 101, "house", 5, [104, 111, 117, 115, 101], 950), (190, 27, "TownTune$Tokens", 103, "kind", 4, [107, 105, 110, 100], 951), (198, 28, "TownTune$Tokens", 104, "sung", 4, [115, 117, 110, 103], 952), (206, 29, "TownTune", 161, "no such count", 13, [110, 111, 32, 115, 117, 99, 104, 32, 99, 111, 117, 110, 116], 1092), (223, 30, "TownTune", 194, "no such person", 14, [110, 111, 32, 115, 117, 99, 104, 32, 112, 101, 114, 115, 111, 110], 1110), (241, 31, "TownTune", 188, "nothing such is told of a person", 32, [110, 111, 116, 104, 105, 110, 103, 32, 115, 117, 99, 104, 32, 105, 115, 32, 116, 111, 108, 100, 32, 111, 102, 32, 97, 32, 112, 101, 114, 115, 111, 110], 1116), (277, 32, "TownTune", 196, "nothing such is answered", 24, [110, 111, 116, 104, 105, 110, 103, 32, 115, 117, 99, 104, 32, 105, 115, 32, 97, 110, 115, 119, 101, 114, 101, 100], 1127), (305, 33, "TownTune", 205, "no such feud", 12, [110, 111, 32, 115, 117, 99, 104, 32, 102, 101, 117, 100], 1128), (321, 34, "TownTune", 213, "no such place", 13, [110, 111, 32, 115, 117, 99, 104, 32, 112, 108, 97, 99, 101], 1136), (338, 35, "TownTune", 272, "no phrase", 9, [110, 111, 32, 112, 104, 114, 97, 115, 101], 1185), (351, 36, "TownTune", 274, "a phrase with more signs than told", 34, [97, 32, 112, 104, 114, 97, 115, 101, 32, 119, 105, 116, 104, 32, 109, 111, 114, 101, 32, 115, 105, 103, 110, 115, 32, 116, 104, 97, 110, 32, 116, 111, 108, 100], 1186), (389, 37, "TownTune", 288, "no such interval", 16, [110, 111, 32, 115, 117, 99, 104, 32, 105, 110, 116, 101, 114, 118, 97, 108], 1214), (409, 38, "TownTune", 290, "this person has not so many signs", 33, [116, 104, 105, 115, 32, 112, 101, 114, 115, 111, 110, 32, 104, 97, 115, 32, 110, 111, 116, 32, 115, 111, 32, 109, 97, 110, 121, 32, 115, 105, 103, 110, 115], 1222), (446, 39, "TownTune", 316, "not so many years", 17, [110, 111, 116, 32, 115, 111, 32, 109, 97, 110, 121, 32, 121, 101, 97, 114, 115], 1269), (467, 40, "TownTune", 358, "no two houses", 13, [110, 111, 32, 116, 119, 111, 32, 104, 111, 117, 115, 101, 115], 1313), (584, 41, "TownTuneModel", 289, "other", 5, [111, 116, 104, 101, 114], 1636), (594, 42, "TownTuneModel", 290, "sings", 5, [115, 105, 110, 103, 115], 1637), (604, 43, "TownTuneModel", 267, "not", 3, [110, 111, 116], 1674), (612, 44, "TownTuneModel", 275, "and", 3, [97, 110, 100], 1695), (620, 45, "TownTuneModel", 280, "or", 2, [111, 114], 1696), (627, 46, "TownTuneModel", 298, "feud", 4, [102, 101, 117, 100], 1705)]
abbrev tmA (p : SA) : Term := .string p.2.2.1 p.2.2.2.1
abbrev vlA (p : SA) : Term := .field (tmA p) "java/lang/String" "value" "[B"
def wdA (p : SA) : Nat → Cond
  | 0 => .exactly (tmA p) "java/lang/String"
  | 1 => .eq (.field (tmA p) "java/lang/String" "coder" "B") (.int 0)
  | 2 => .arrayOf (vlA p) .byte
  | 3 => .eq (.length (vlA p)) (.int (Int32.ofNat p.2.2.2.2.2.1))
  | k + 4 => .eq (.elem (vlA p) (.int (Int32.ofNat k))) (.int (p.2.2.2.2.2.2.1.getD k 0))
def okSA (p : SA) : Bool := (List.range (4 + p.2.2.2.2.2.1)).all (fun k => decide (narC (p.1 + k) = some (wdA p k)))
theorem narA0 : ((strA.drop 0).take 12).all okSA = true := by decide +kernel
theorem narA1 : ((strA.drop 12).take 12).all okSA = true := by decide +kernel
theorem narA2 : ((strA.drop 24).take 12).all okSA = true := by decide +kernel
theorem narA3 : ((strA.drop 36).take 12).all okSA = true := by decide +kernel
theorem srA : strA.all (fun p => decide (lw_tbl[p.2.2.2.2.2.2.2]? = some (.stringRef p.2.2.1 p.2.2.2.1 p.2.2.2.2.1)) && decide (p.2.2.2.2.2.1 < 2 ^ 31)) = true := by decide +kernel
theorem subL : ∀ q ∈ strL, ∃ p ∈ strA, p.2.2.1 = q.1 ∧ p.2.2.2.1 = q.2.1 ∧ p.2.2.2.2.1 = q.2.2.1 ∧ p.2.1 = q.2.2.2 := by decide +kernel
theorem subC : ∀ q ∈ strC, ∃ p ∈ strA, p.2.1 = q.1 ∧ p.2.2.2.2.2.1 = q.2.1 ∧ p.2.2.2.2.2.2.1 = q.2.2 := by decide +kernel
theorem keyA : (strA.map (fun p => p.2.1)).Nodup := by decide +kernel
theorem st_us : narC 2 = some (.isRef (.static Bundle.tN "UNASSIGNED_STACK" Bundle.steD)) := by decide +kernel
theorem st_ss : narC 3 = some (.isRef (.static Bundle.tN "SUPPRESSED_SENTINEL" Bundle.listD)) := by decide +kernel
theorem st_cs : narC 4 = some (.eq (.static "java/lang/String" "COMPACT_STRINGS" "Z") (.int 1)) := by decide +kernel
theorem st_sf : narC 5 = some (.isRef (.static "jdk/internal/util/Preconditions" "SIOOBE_FORMATTER" "Ljava/util/function/BiFunction;")) := by decide +kernel
theorem st_nc : narC 36 = some (.not (.castable iaN nsN)) := by decide +kernel
