/-! ===== the law: a judgement with its context fixed ===== -/
def lj_C (p : Program) (s : State) (m : MethodId) (meth : Method) (c : Code) (b L : Nat) (xs : Nat → Int32) (x : ax_X) : Prop :=
  p.tables.exec = Jvm.exec ∧ c.code = code ∧ meth.sig.returnType = ret ∧ c.maxLocals = 4 ∧ s.vm.findClass RL = some m.cls ∧ (∀ w ∈ lw_tbl, w.before #[Value.ref b] s = true) ∧ va_X b L xs s s.heap ∧ b < x.1 ∧ meth.locks = false ∧ ax_K x s ∧ x.1 = s.heap.size ∧ x.2.1 3 = b
def lj_J (p : Program) (l : Launch) (e : Env) (s : State) (m : MethodId) (below : List Frame) (meth : Method) (c : Code) (b : Nat) (x : ax_X) (k w pc : Nat) (ls : List (Option Value)) (st : List Value) (σ : ax_S) : Prop :=
  ∀ (H : Heap) (locs : List Loc) (lsA : Array Slot), ax_Hp x σ s H locs → ax_Ls x 4 lsA ls → W p l e room_1 s m #[Value.ref b] below meth c H locs k w (lw_Z below #[Value.ref b] s) (F0 m pc lsA (st.map (ax_cv x)))
section LJ
variable {p : Program} {l : Launch} {e : Env} {s : State} {m : MethodId} {below : List Frame} {meth : Method} {c : Code} {b L : Nat} {xs : Nat → Int32} {x : ax_X} {k w pc pc' : Nat} {ls ls' : List (Option Value)} {st : List Value} {σ : ax_S}
theorem lj_iconst {n : Int} {v : Int32} (C : lj_C p s m meth c b L xs x) (hv : Int32.ofInt n = v) (hd : decode code pc = .ok (.iconst n, 1)) (hp : pc + 1 = pc') (kk : lj_J p l e s m below meth c b x k w pc' ls (.int v :: st) σ) : lj_J p l e s m below meth c b x k w pc ls st σ := by
  subst hp
  intro H locs lsA Hp L
  exact lv_iconst C.1 C.2.1 hd hv (kk H locs lsA Hp L)
theorem lj_bipush {n : Int} {v : Int32} (C : lj_C p s m meth c b L xs x) (hv : (Int8.ofInt n).toInt32 = v) (hd : decode code pc = .ok (.bipush n, 2)) (hp : pc + 2 = pc') (kk : lj_J p l e s m below meth c b x k w pc' ls (.int v :: st) σ) : lj_J p l e s m below meth c b x k w pc ls st σ := by
  subst hp
  intro H locs lsA Hp L
  exact lv_bipush C.1 C.2.1 hd hv (kk H locs lsA Hp L)
theorem lj_iload_n {n : Fin 4} {y : Int32} (C : lj_C p s m meth c b L xs x) (hl : ls[(n : Nat)]? = some (some (.int y))) (hd : decode code pc = .ok (.iload_n n, 1)) (hp : pc + 1 = pc') (kk : lj_J p l e s m below meth c b x k w pc' ls (.int y :: st) σ) : lj_J p l e s m below meth c b x k w pc ls st σ := by
  subst hp
  intro H locs lsA Hp L
  exact lv_iload_n C.1 C.2.1 hd rfl (L.2.2 _ _ hl) (kk H locs lsA Hp L)
theorem lj_aload_n {n : Fin 4} {y : Nat} (C : lj_C p s m meth c b L xs x) (hl : ls[(n : Nat)]? = some (some (.ref y))) (hd : decode code pc = .ok (.aload_n n, 1)) (hp : pc + 1 = pc') (kk : lj_J p l e s m below meth c b x k w pc' ls (.ref y :: st) σ) : lj_J p l e s m below meth c b x k w pc ls st σ := by
  subst hp
  intro H locs lsA Hp L
  exact lv_aload_n C.1 C.2.1 hd rfl (L.2.2 _ _ hl) (kk H locs lsA Hp L)
theorem lj_aloadS {n : Fin 4} {y : Nat} (C : lj_C p s m meth c b L xs x) (hl : ls[(n : Nat)]? = some (some (.retAddr y))) (hd : decode code pc = .ok (.aload_n n, 1)) (hp : pc + 1 = pc') (kk : lj_J p l e s m below meth c b x k w pc' ls (.retAddr y :: st) σ) : lj_J p l e s m below meth c b x k w pc ls st σ := by
  subst hp
  intro H locs lsA Hp L
  exact lv_aload_n C.1 C.2.1 hd rfl (L.2.2 _ _ hl) (kk H locs lsA Hp L)
theorem lj_iadd {y z : Int32} (C : lj_C p s m meth c b L xs x) (hd : decode code pc = .ok (.iadd, 1)) (hp : pc + 1 = pc') (kk : lj_J p l e s m below meth c b x k w pc' ls (.int (y + z) :: st) σ) : lj_J p l e s m below meth c b x k w pc ls (.int z :: .int y :: st) σ := by
  subst hp
  intro H locs lsA Hp L
  exact lv_iadd C.1 C.2.1 hd (kk H locs lsA Hp L)
theorem lj_slen (C : lj_C p s m meth c b L xs x) (hd : decode code pc = .ok (.arraylength, 1)) (hp : pc + 1 = pc') (kk : lj_J p l e s m below meth c b x k w pc' ls (.int (nI L) :: st) σ) : lj_J p l e s m below meth c b x k w pc ls (.retAddr 3 :: st) σ := by
  subst hp
  intro H locs lsA Hp L9
  obtain ⟨c1, c2, c3, c4, c5, c6, c7, c8, c9, c10, c11, c12⟩ := C
  show W p l e room_1 s m #[Value.ref b] below meth c H locs k w (lw_Z below #[Value.ref b] s) (F0 m pc lsA (.ref (x.2.1 3) :: st.map (ax_cv x)))
  rw [c12]
  exact va_slen (A := fun q => x.1 ≤ q) (H0 := s.heap) c1 c2 c7 (by omega) (by omega) Hp.2.2.2.1 hd (kk H locs lsA Hp L9)
theorem lj_sld {j : Nat} (C : lj_C p s m meth c b L xs x) (hj : j < L) (hL : L < 2 ^ 31) (hd : decode code pc = .ok (.iaload, 1)) (hp : pc + 1 = pc') (kk : lj_J p l e s m below meth c b x k w pc' ls (.int (xs j) :: st) σ) : lj_J p l e s m below meth c b x k w pc ls (.int (nI j) :: .retAddr 3 :: st) σ := by
  subst hp
  intro H locs lsA Hp L9
  obtain ⟨c1, c2, c3, c4, c5, c6, c7, c8, c9, c10, c11, c12⟩ := C
  show W p l e room_1 s m #[Value.ref b] below meth c H locs k w (lw_Z below #[Value.ref b] s) (F0 m pc lsA (.int (nI j) :: .ref (x.2.1 3) :: st.map (ax_cv x)))
  rw [c12]
  have h9 := kk H locs lsA Hp L9
  refine va_sld (A := fun q => x.1 ≤ q) (H0 := s.heap) (i := nI j) c1 c2 c7 (by omega) (by omega) Hp.2.2.2.1 (vp_in_nI hj hL) hd ?_
  rw [nI_clamp (by omega)]
  exact h9
theorem lj_big (C : lj_C p s m meth c b L xs x) : ∀ q ∈ ax_Big, q.before #[Value.ref b] s = true := fun q h => C.2.2.2.2.2.1 q (ax_goodL q h).1
theorem lj_Ws {M : ax_M} (hc : Cond.code M.1 M.2.1 M.2.2.1 M.2.2.2 ∈ ax_Big) : GoodIn lw_tbl (ax_Ws M) := by
  intro w hw
  rcases List.mem_cons.mp hw with rfl | h
  · exact ax_goodL _ hc
  · exact ax_goodL _ h
theorem lj_after {a : Array Value} {H : Heap} {locs : List Loc} {lsA : Array Slot} {mc ms : Nat} {post' : Option Value → ax_S → Prop} {st0 rest : List Value}
    (hr : va_Run p l e room_1 s m #[Value.ref b] below meth c H locs k w mc ms (F0 m pc lsA st0) (rest.map (ax_cv x)) (ax_Q x post' a) (fun q => x.1 ≤ q)) (Hp : ax_Hp x σ s H locs) (L : ax_Ls x 4 lsA ls)
    (kk : ∀ r σ', post' r σ' → lj_J p l e s m below meth c b x (k + mc) (w + ms) (pc + 3) ls (r.toList ++ rest) σ') : W p l e room_1 s m #[Value.ref b] below meth c H locs k w (lw_Z below #[Value.ref b] s) (F0 m pc lsA st0) := by
  intro T hT X
  obtain ⟨v, st₀, t, T', L', h0, X', hL, e1, e2, ⟨⟨r, σ', hv, hp, hIn⟩, hz, hk⟩, st⟩ := hr T hT X
  cases hv
  rw [h0] at hz hk
  have hS : va_S (fun q => x.1 ≤ q) s.heap T'.heap (locs ++ L') := ⟨Nat.le_trans Hp.2.2.2.1.1 (by rw [e1]; exact hz), fun q h1 h2 => by rw [e1, hk q (Nat.lt_of_lt_of_le h1 Hp.2.2.2.1.1) h2]; exact Hp.2.2.2.1.2.1 q h1 h2, fun q hq => by
    rcases List.mem_append.mp hq with h | h
    · exact Hp.2.2.2.1.2.2 q h
    · exact hL q h⟩
  obtain ⟨t2, a1, b1⟩ := kk r σ' hp T'.heap (locs ++ L') lsA ⟨by rw [e1]; exact hIn.1, by rw [e1]; exact hIn.2.1, hIn.2.2.1, hS, Hp.2.2.2.2⟩ L T' rfl X'
  refine ⟨t2, st t2 ?_, b1⟩
  have e9 : (r.map (ax_cv x)).toList ++ rest.map (ax_cv x) = (r.toList ++ rest).map (ax_cv x) := by cases r <;> simp
  rw [e9]
  exact a1
theorem lj_callV {M : ax_M} {d n idx ci a : Nat} {fs av rest : List Value} {post' : Option Value → ax_S → Prop} (C : lj_C p s m meth c b L xs x) (hl : ax_LV RL idx M n ci) (hN : ax_N M d 0 0 (.ref a :: av) σ post') (hc : σ.1 a = some (.inr (ci, fs))) (hst : st = ax_push (.ref a :: av) rest) (hlen : av.length = n) (hdd : d ≤ 8) (hr : (rest.map Value.category).sum ≤ 8) (hk : k + 0 ≤ 75) (hw : w + 0 ≤ 1535) (hd : decode code pc = .ok (.invokevirtual idx, 3)) (hp : pc + 3 = pc') (kk : ∀ r σ', post' r σ' → lj_J p l e s m below meth c b x k w pc' ls (r.toList ++ rest) σ') : lj_J p l e s m below meth c b x k w pc ls st σ := by
  subst hp
  subst hst
  obtain ⟨h1, h2, h2s, h2c, h3, h4, h5, h6⟩ := hl
  intro H locs lsA Hp L9
  have hts := lj_big C
  have hR : (ax_Rm d 0 0).frames + 1 ≤ room_1.frames ∧ 8 + (M.2.2.1 + 11) + (ax_Rm d 0 0).locals ≤ room_1.locals := ⟨by show d + 1 ≤ 10; omega, by show 8 + (M.2.2.1 + 11) + 35 * d ≤ 358; omega⟩
  have hstk : (ax_push (.ref a :: av) rest).map (ax_cv x) = (av.map (ax_cv x)).reverse ++ .ref (x.1 + a) :: rest.map (ax_cv x) := by rw [ax_push_eq]; simp [ax_cv]
  obtain ⟨q, hq, hqe⟩ := Option.map_eq_some_iff.mp h2c
  obtain ⟨c1, c2, c3, c4, c5, c6, c7, c8, c9, c10, c11, c12⟩ := C
  have hrecv := va_recv c10.1 Hp.2.1 hq (ax_W_get (x := x) Hp.2.2.1 hc)
  rw [hqe] at hrecv
  have hpre : PreV s H M.1.cls (x.1 + a) (ax_Pc x (.ref a :: av) σ) (av.map (ax_cv x)) := ⟨ax_blind, hrecv, fun U hU hW => ax_pre (av := .ref a :: av) Hp c10 hU hW⟩
  have hfx : CallFix p m c code 4 s #[Value.ref b] lw_tbl RL := ⟨c1, c2, c4, c5, c6⟩
  rcases h4 with h4 | ⟨host, h4⟩
  · exact lj_after (va_runV (g := F0 m pc lsA _) hfx (hN l x) ⟨callB_of n c6 (lj_Ws h1) rfl rfl rfl (hts _ h3) (hts _ h4) h6 hR, hts _ h2, hts _ h2s⟩ hpre rfl (by rw [List.length_map]; exact hlen) L9.1 hstk (ax_rest hr) hd ⟨hk, hw⟩) Hp L9 kk
  · exact lj_after (va_runVN (g := F0 m pc lsA _) hfx (hN l x) ⟨va_cnB n c6 (lj_Ws h1) rfl rfl rfl (c10.2.2.1 _ h4) (hts _ h3) h6 hR, hts _ h2, hts _ h2s⟩ hpre rfl (by rw [List.length_map]; exact hlen) L9.1 hstk (ax_rest hr) hd ⟨hk, hw⟩) Hp L9 kk
theorem lj_callI {M : ax_M} {d mc ms n idx a : Nat} {av rest : List Value} {post' : Option Value → ax_S → Prop} (C : lj_C p s m meth c b L xs x) (hl : ax_LI RL idx M n) (hN : ax_N M d mc ms (.ref a :: av) σ post') (hst : st = ax_push (.ref a :: av) rest) (hlen : av.length = n) (hdd : d ≤ 8) (hr : (rest.map Value.category).sum ≤ 8) (hk : k + mc ≤ 75) (hw : w + ms ≤ 1535) (hd : decode code pc = .ok (.invokespecial idx, 3)) (hp : pc + 3 = pc') (kk : ∀ r σ', post' r σ' → lj_J p l e s m below meth c b x (k + mc) (w + ms) pc' ls (r.toList ++ rest) σ') : lj_J p l e s m below meth c b x k w pc ls st σ := by
  subst hp
  subst hst
  obtain ⟨h1, h2, h3, h4, h5, h6, h7, h8⟩ := hl
  intro H locs lsA Hp L9
  have hts := lj_big C
  have hR : (ax_Rm d mc ms).frames + 1 ≤ room_1.frames ∧ 8 + (M.2.2.1 + 11) + (ax_Rm d mc ms).locals ≤ room_1.locals := ⟨by show d + 1 ≤ 10; omega, by show 8 + (M.2.2.1 + 11) + 35 * d ≤ 358; omega⟩
  have hstk : (ax_push (.ref a :: av) rest).map (ax_cv x) = (av.map (ax_cv x)).reverse ++ .ref (x.1 + a) :: rest.map (ax_cv x) := by rw [ax_push_eq]; simp [ax_cv]
  obtain ⟨c1, c2, c3, c4, c5, c6, c7, c8, c9, c10, c11, c12⟩ := C
  have hpre : PreS s H (ax_Pc x (.ref a :: av) σ) (.ref (x.1 + a) :: av.map (ax_cv x)) := ⟨ax_blind, fun U hU hW => ax_pre (av := .ref a :: av) Hp c10 hU hW⟩
  have hfx : CallFix p m c code 4 s #[Value.ref b] lw_tbl RL := ⟨c1, c2, c4, c5, c6⟩
  have hwe : ax_Ws M = Cond.code M.1 M.2.1 M.2.2.1 none :: ax_Big := by rw [ax_Ws, h8]
  rcases h4 with h4 | ⟨host, h4⟩
  · exact lj_after (va_runI (g := F0 m pc lsA _) hfx (hN l x) ⟨callB_of n c6 (lj_Ws h1) hwe rfl rfl (hts _ h3) (hts _ h4) h6 hR, h7, hts _ h2⟩ hpre rfl (by rw [List.length_map]; exact hlen) L9.1 hstk (ax_rest hr) hd ⟨hk, hw⟩) Hp L9 kk
  · exact lj_after (va_runIN (g := F0 m pc lsA _) hfx (hN l x) ⟨va_cnB n c6 (lj_Ws h1) hwe rfl rfl (c10.2.2.1 _ h4) (hts _ h3) h6 hR, h7, hts _ h2⟩ hpre rfl (by rw [List.length_map]; exact hlen) L9.1 hstk (ax_rest hr) hd ⟨hk, hw⟩) Hp L9 kk
end LJ
