/-! the law's loop -/
def Alw (s : State) : Nat → Prop := fun q => s.heap.size ≤ q
def lawlv (E : En) (b o i : Nat) : List (Nat × Value) := [(0, .ref b), (1, .ref (E.1 0)), (2, .ref (E.1 84)), (3, .ref o), (4, .int (nI i))]
/-- behind a case of the switch -/
def LNx (E : En) (o : Nat) (cL : ClassId) (b : Nat) (p : Program) (l : Launch) (e : Env) (s : State) (m : MethodId) (below : List Frame) (meth : Method) (c : Code) (Q : State → Prop) (cells slots i : Nat) : Prop :=
  ∀ (σ : WS) (g : G2) (v : Nat → Int64) (H : Heap) (locs : List Loc) (ls : Array Slot), LPw E o cL g v H → va_S (Alw s) s.heap H locs → CR g σ → MR g σ → OKs σ → lv_has ls 7 (lawlv E b o i) →
    W p l e room_1 s m #[Value.ref b] below meth c H locs cells slots Q (F0 m 1976 ls [])
section LawLoop
variable {E : En} {o : Nat} {cL : ClassId} {A : Nat → Prop} {p : Program} {l : Launch} {e : Env} {R : Room} {s : State} {m : MethodId} {args : Array Value} {below : List Frame} {meth : Method} {c : Code} {H : Heap} {locs : List Loc} {cells slots : Nat} {Q : State → Prop} {cc : ByteArray} {nL pc : Nat} {ls : Array Slot} {rest : List Value}
/-- an int of the script -/
theorem l_sc {b L i k : Nat} {kz : Int} {xs : Nat → Int32} (hx : p.tables.exec = Jvm.exec) (hb : c.code = cc) (hX : va_X b L xs s s.heap) (hbl : b < s.heap.size) (hS : va_S (Alw s) s.heap H locs) (h0 : ls[0]? = some (.val (.ref b))) (h4 : ls[4]? = some (.val (.int (nI i))))
    (d0 : decode cc pc = .ok (.aload_n 0, 1)) (d1 : decode cc (pc + 1) = .ok (.iload 4, 2)) (d2 : decode cc (pc + 1 + 2) = .ok (.iconst kz, 1)) (hk : Int32.ofInt kz = nI k) (d3 : decode cc (pc + 1 + 2 + 1) = .ok (.iadd, 1)) (d4 : decode cc (pc + 1 + 2 + 1 + 1) = .ok (.iaload, 1)) (hi : i + k < L) (hL : L ≤ 3072)
    (kk : W p l e R s m args below meth c H locs cells slots Q (F0 m (pc + 1 + 2 + 1 + 1 + 1) ls (.int (xs (i + k)) :: rest))) : W p l e R s m args below meth c H locs cells slots Q (F0 m pc ls rest) := by
  refine lv_aload_n hx hb d0 rfl h0 ?_
  refine lv_iload hx hb d1 h4 ?_
  refine lv_iconst (v := nI k) hx hb d2 hk ?_
  refine lv_iadd hx hb d3 ?_
  rw [nI_add]
  refine va_sld (A := Alw s) hx hb hX hbl (fun q => absurd hbl (Nat.not_lt.mpr q)) hS ?_ d4 ?_
  · unfold vp_in
    rw [nI_cl (by omega)]
    intro q
    rcases q with q | q
    · exact nI_pos (by omega) q
    · omega
  · rw [nI_cl (by omega)]; exact kk
theorem lg_same (x : Int64) : lg_cmp x x = 0 := by
  unfold lg_cmp
  rw [if_neg (fun q => Int64.lt_irrefl q), if_pos rfl]
end LawLoop
