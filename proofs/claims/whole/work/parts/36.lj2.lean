/-! ===== the law: the other rows ===== -/
section LK
variable {p : Program} {l : Launch} {e : Env} {s : State} {m : MethodId} {below : List Frame} {meth : Method} {c : Code} {b L : Nat} {xs : Nat → Int32} {x : ax_X} {k w pc pc' : Nat} {ls ls' : List (Option Value)} {st : List Value} {σ : ax_S}
theorem lj_isub {y z : Int32} (C : lj_C p s m meth c b L xs x) (hd : decode code pc = .ok (.isub, 1)) (hp : pc + 1 = pc') (kk : lj_J p l e s m below meth c b x k w pc' ls (.int (y - z) :: st) σ) : lj_J p l e s m below meth c b x k w pc ls (.int z :: .int y :: st) σ := by
  subst hp
  intro H locs lsA Hp L9
  exact lv_isub C.1 C.2.1 hd (kk H locs lsA Hp L9)
theorem lj_iand {y z : Int32} (C : lj_C p s m meth c b L xs x) (hd : decode code pc = .ok (.iand, 1)) (hp : pc + 1 = pc') (kk : lj_J p l e s m below meth c b x k w pc' ls (.int (y &&& z) :: st) σ) : lj_J p l e s m below meth c b x k w pc ls (.int z :: .int y :: st) σ := by
  subst hp
  intro H locs lsA Hp L9
  exact lv_iand C.1 C.2.1 hd (kk H locs lsA Hp L9)
theorem lj_dup {v : Value} (C : lj_C p s m meth c b L xs x) (hc : v.category = 1) (hd : decode code pc = .ok (.dup, 1)) (hp : pc + 1 = pc') (kk : lj_J p l e s m below meth c b x k w pc' ls (v :: v :: st) σ) : lj_J p l e s m below meth c b x k w pc ls (v :: st) σ := by
  subst hp
  intro H locs lsA Hp L9
  exact lv_dup C.1 C.2.1 hd (by rw [ax_cv_cat]; exact hc) (kk H locs lsA Hp L9)
theorem lj_istore_n {n : Fin 4} {y : Int32} (C : lj_C p s m meth c b L xs x) (hs : ax_st1 ls (n : Nat) (.int y) some = some ls') (hm : ls.length ≤ 4) (hd : decode code pc = .ok (.istore_n n, 1)) (hp : pc + 1 = pc') (kk : lj_J p l e s m below meth c b x k w pc' ls' st σ) : lj_J p l e s m below meth c b x k w pc ls (.int y :: st) σ := by
  subst hp
  obtain ⟨h1, ls1, e1, h2⟩ := ax_st1_of _ _ _ _ _ hs
  cases e1
  intro H locs lsA Hp L9
  exact lv_istore_n (lv' := _) C.1 C.2.1 hd rfl L9.has (by omega) rfl (fun lsB hB => kk H locs lsB Hp (ax_Ls.st1 hB h2))
theorem lj_astore_n {n : Fin 4} {y : Nat} (C : lj_C p s m meth c b L xs x) (hs : ax_st1 ls (n : Nat) (.ref y) some = some ls') (hm : ls.length ≤ 4) (hd : decode code pc = .ok (.astore_n n, 1)) (hp : pc + 1 = pc') (kk : lj_J p l e s m below meth c b x k w pc' ls' st σ) : lj_J p l e s m below meth c b x k w pc ls (.ref y :: st) σ := by
  subst hp
  obtain ⟨h1, ls1, e1, h2⟩ := ax_st1_of _ _ _ _ _ hs
  cases e1
  intro H locs lsA Hp L9
  exact lv_astore_n (lv' := _) C.1 C.2.1 hd rfl L9.has (by omega) rfl (fun lsB hB => kk H locs lsB Hp (ax_Ls.st1 hB h2))
theorem lj_iinc {i : Nat} {n : Int} {y v : Int32} (C : lj_C p s m meth c b L xs x) (hl : ls[i]? = some (some (.int y))) (hv : y + Int32.ofInt n = v) (hs : ax_st1 ls i (.int v) some = some ls') (hm : ls.length ≤ 4) (hd : decode code pc = .ok (.iinc i n, 3)) (hp : pc + 3 = pc') (kk : lj_J p l e s m below meth c b x k w pc' ls' st σ) : lj_J p l e s m below meth c b x k w pc ls st σ := by
  subst hp
  obtain ⟨h1, ls1, e1, h2⟩ := ax_st1_of _ _ _ _ _ hs
  cases e1
  intro H locs lsA Hp L9
  obtain ⟨j, hj⟩ := List.getElem?_of_mem (ax_ll_mem (x := x).mpr ⟨.int y, (hl : ls[((i, Value.int y) : Nat × Value).1]? = _), (rfl : ((i, Value.int y) : Nat × Value).2 = ax_cv x (.int y))⟩)
  exact lv_iinc (lv' := _) C.1 C.2.1 hd L9.has hj hv (by omega) rfl (fun lsB hB => kk H locs lsB Hp (ax_Ls.st1 (v := .int v) hB h2))
theorem lj_icmp_gt {y z : Int32} {off : Int} {tgt : Nat} (C : lj_C p s m meth c b L xs x) (hd : decode code pc = .ok (.if_icmp .gt off, 3)) (ht : (pc : Int) + off = (tgt : Int)) (hp : pc + 3 = pc') (kt : z < y → lj_J p l e s m below meth c b x k w tgt ls st σ) (kf : ¬ z < y → lj_J p l e s m below meth c b x k w pc' ls st σ) : lj_J p l e s m below meth c b x k w pc ls (.int z :: .int y :: st) σ := by
  subst hp
  intro H locs lsA Hp L9
  exact lv_icmp_gt C.1 C.2.1 hd ht (fun h => kt h H locs lsA Hp L9) (fun h => kf h H locs lsA Hp L9)
theorem lj_icmp_eq {y z : Int32} {off : Int} {tgt : Nat} (C : lj_C p s m meth c b L xs x) (hd : decode code pc = .ok (.if_icmp .eq off, 3)) (ht : (pc : Int) + off = (tgt : Int)) (hp : pc + 3 = pc') (kt : y = z → lj_J p l e s m below meth c b x k w tgt ls st σ) (kf : ¬ y = z → lj_J p l e s m below meth c b x k w pc' ls st σ) : lj_J p l e s m below meth c b x k w pc ls (.int z :: .int y :: st) σ := by
  subst hp
  intro H locs lsA Hp L9
  exact lv_icmp_eq C.1 C.2.1 hd ht (fun h => kt h H locs lsA Hp L9) (fun h => kf h H locs lsA Hp L9)
theorem lj_goto {off : Int} {tgt : Nat} (C : lj_C p s m meth c b L xs x) (hd : decode code pc = .ok (.goto off, 3)) (ht : (pc : Int) + off = (tgt : Int)) (kk : lj_J p l e s m below meth c b x k w tgt ls st σ) : lj_J p l e s m below meth c b x k w pc ls st σ := by
  intro H locs lsA Hp L9
  exact lv_goto C.1 C.2.1 hd ht (kk H locs lsA Hp L9)
theorem lj_tabIn {dflt lo hi : Int} {offs : Array Int} {len : Nat} {y : Int32} {off : Int} {tgt : Nat} (C : lj_C p s m meth c b L xs x) (hd : decode code pc = .ok (.tableswitch dflt lo hi offs, len)) (h1 : ¬ y.toInt < lo) (h2 : ¬ hi < y.toInt) (ho : offs[(y.toInt - lo).toNat]? = some off) (ht : (pc : Int) + off = (tgt : Int)) (kk : lj_J p l e s m below meth c b x k w tgt ls st σ) : lj_J p l e s m below meth c b x k w pc ls (.int y :: st) σ := by
  intro H locs lsA Hp L9
  exact lv_tableIn C.1 C.2.1 hd h1 h2 ho ht (kk H locs lsA Hp L9)
theorem lj_tabOut {dflt lo hi : Int} {offs : Array Int} {len : Nat} {y : Int32} {tgt : Nat} (C : lj_C p s m meth c b L xs x) (hd : decode code pc = .ok (.tableswitch dflt lo hi offs, len)) (h : y.toInt < lo ∨ hi < y.toInt) (ht : (pc : Int) + dflt = (tgt : Int)) (kk : lj_J p l e s m below meth c b x k w tgt ls st σ) : lj_J p l e s m below meth c b x k w pc ls (.int y :: st) σ := by
  intro H locs lsA Hp L9
  exact lv_tableOut C.1 C.2.1 hd h ht (kk H locs lsA Hp L9)
theorem lj_new {ci idx N z : Nat} {C' : String} {T : u_T} {ty : Nat → FieldType} {fs : List Value} (C : lj_C p s m meth c b L xs x) (hz : σ.2 = z) (h1 : vwCl[ci]? = some (C', T, N)) (hty : ∀ k, k < N → parseFieldDescriptor (T k).2.2.1 = some (ty k)) (hcl : Cond.classLink RL idx C' ∈ ax_Big) (hins : Cond.instantiable C' N ∈ ax_Big) (hini : Cond.initialized C' ∈ ax_Big) (hfs : ∀ (x : ax_X) (j : Nat), j < N → defaultValue (ty j) = vp_V (fs.map (ax_cv x)) j) (hk : k + 1 ≤ 75) (hw : w + N ≤ 1535) (hd : decode code pc = .ok (.new idx, 3)) (hp : pc + 3 = pc') (kk : ∀ τ : ax_S, τ = (ax_up σ.1 z (.inr (ci, fs)), z + 1) → lj_J p l e s m below meth c b x (k + 1) (w + N) pc' ls (.ref z :: st) τ) : lj_J p l e s m below meth c b x k w pc ls st σ := by
  subst hp
  subst hz
  intro H locs lsA Hp L9
  have hts := lj_big C
  have hKn := C.2.2.2.2.2.2.2.2.2.1.1.1 ci _ h1
  refine W.newcK C.1 C.2.1 C.2.2.2.2.1 (hts _ hcl) (hts _ hins) (hts _ hini) rfl hd hk hw hKn.2.1 (h := x.1 + σ.2) Hp.1 fun H1 kC hkC e1 z1 o1 => ?_
  refine kk _ rfl H1 _ lsA (Hp.push (by rw [z1, Hp.1]) (fun q hq => o1 q (by rw [← Hp.1]; exact hq)) ⟨_, h1, ?_⟩) L9
  exact (u_born ty hts (ax_cls h1).1 hKn hkC e1 hty).to (hfs x)
theorem lj_ret (C : lj_C p s m meth c b L xs x) (hk : k ≤ 75) (hw : w ≤ 1535) (hd : decode code pc = .ok (.ireturn, 1)) : lj_J p l e s m below meth c b x k w pc ls [.int (nI 1)] σ := by
  intro H locs lsA Hp L9
  refine W.widen hk hw (va_forget (fun q hq => ?_) (lw_ret C.1 C.2.1 C.2.2.1 C.2.2.2.2.2.2.2.2.1 hd))
  have := Hp.2.2.2.1.2.2 q hq
  rw [C.2.2.2.2.2.2.2.2.2.2.1] at this
  exact this
end LK
