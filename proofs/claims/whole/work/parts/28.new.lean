/-! ===== new objects ===== -/
section NW
variable {F : ax_F} {k w pc pc' : Nat} {ls : List (Option Value)} {st : List Value} {σ : ax_S} {post : Option Value → ax_S → Prop}
theorem ax_newiU {i : Int32} {n z : Nat} (hz : σ.2 = z) (hi : i = nI n) (hn : n ≤ 1000) (hk : k + 1 ≤ F.2.2.1) (hw : w + n ≤ F.2.2.2) (hd : decode F.1.2.1 pc = .ok (.newarray .int, 2)) (hp : pc + 2 = pc') (harr : Cond.arrayClass .int ∈ ax_Big) (kk : ∀ τ : ax_S, τ = (ax_up σ.1 z (.inl (false, n, fun _ => 0)), z + 1) → ax_J F (k + 1) (w + n) pc' ls (.ref z :: st) τ post) : ax_J F k w pc ls (.int i :: st) σ post := by
  subst hz
  exact ax_newi hi hn hk hw hd hp harr (kk _ rfl)
theorem ax_newbU {i : Int32} {n z : Nat} (hz : σ.2 = z) (hi : i = nI n) (hn : n ≤ 1000) (hk : k + 1 ≤ F.2.2.1) (hw : w + n ≤ F.2.2.2) (hd : decode F.1.2.1 pc = .ok (.newarray .byte, 2)) (hp : pc + 2 = pc') (harr : Cond.arrayClass .byte ∈ ax_Big) (kk : ∀ τ : ax_S, τ = (ax_up σ.1 z (.inl (true, n, fun _ => 0)), z + 1) → ax_J F (k + 1) (w + n) pc' ls (.ref z :: st) τ post) : ax_J F k w pc ls (.int i :: st) σ post := by
  subst hz
  exact ax_newb hi hn hk hw hd hp harr (kk _ rfl)
theorem ax_newU {ci idx N z : Nat} {C' : String} {T : u_T} {ty : Nat → FieldType} {fs : List Value} (hz : σ.2 = z) (h1 : vwCl[ci]? = some (C', T, N)) (hty : ∀ k, k < N → parseFieldDescriptor (T k).2.2.1 = some (ty k)) (hcl : Cond.classLink F.1.1.cls idx C' ∈ ax_Big) (hins : Cond.instantiable C' N ∈ ax_Big) (hini : Cond.initialized C' ∈ ax_Big) (hfs : ∀ (x : ax_X) (j : Nat), j < N → defaultValue (ty j) = vp_V (fs.map (ax_cv x)) j) (hk : k + 1 ≤ F.2.2.1) (hw : w + N ≤ F.2.2.2) (hd : decode F.1.2.1 pc = .ok (.new idx, 3)) (hp : pc + 3 = pc') (kk : ∀ τ : ax_S, τ = (ax_up σ.1 z (.inr (ci, fs)), z + 1) → ax_J F (k + 1) (w + N) pc' ls (.ref z :: st) τ post) : ax_J F k w pc ls st σ post := by
  subst hz
  exact ax_new h1 hty hcl hins hini hfs hk hw hd hp (kk _ rfl)
theorem ax_putFU {a ci i idx : Nat} {fs fs' : List Value} {v : Value} {ty : FieldType} (hl : ax_FF F.1.1.cls idx ci i ty) (hnm0 : F.1.1.name = "<init>") (hc : σ.1 a = some (.inr (ci, fs))) (hs : ax_set fs i v some = some fs') (hn : ∀ x : ax_X, narrow ty (ax_cv x v) = ax_cv x v ∧ fits ty (ax_cv x v) = true) (hd : decode F.1.2.1 pc = .ok (.putfield idx, 3)) (hp : pc + 3 = pc') (kk : ∀ τ : ax_S, τ = (ax_up σ.1 a (.inr (ci, fs')), σ.2) → ax_J F k w pc' ls st τ post) : ax_J F k w pc ls (v :: .ref a :: st) σ post :=
  ax_putF hl hnm0 hc hs hn hd hp (kk _ rfl)
end NW
/-- a new object at p, with c cells in all; nothing before it has changed -/
abbrev nw_Po (p c : Nat) (σ : ax_S) (A : ax_H → Prop) : Option Value → ax_S → Prop := fun r τ => r = none ∧ A τ.1 ∧ τ.2 = p + c ∧ ∀ q, q < p → τ.1 q = σ.1 q
section NI
variable {σ : ax_S} {p : Nat} {a1 a2 a3 a4 a5 a6 a7 a8 a9 a10 : Value}
theorem n_Book (K_o : σ.1 p = some (.inr (1, [a1, a2, a3, a4, a5, a6]))) (Z : σ.2 = p + 1) : ax_N mX1_init 1 4 36 [.ref p] σ (nw_Po p 5 σ (fun h => bk_At h p [] 0)) := by
  have G := fun q (hq : q < p) => (rfl : σ.1 q = σ.1 q)
  refine ax_N.of (ls := [some (.ref p)]) (by decide +kernel) rfl (Nat.le_of_ble_eq_true rfl) ?_
  refine ax_aload_n (pc' := 1) rfl dX1_init_0 rfl ?_
  refine ax_objInit (pc' := 4) lo_X1_3 lo_inst lo_code (Nat.le_of_ble_eq_true rfl) (Nat.le_of_ble_eq_true rfl) dX1_init_1 rfl ?_
  refine ax_aload_n (pc' := 5) rfl dX1_init_4 rfl ?_
  refine ax_bipush (pc' := 7) (v := (nI 9)) kb_9 dX1_init_5 rfl ?_
  refine ax_newiU (pc' := 9) Z rfl (Nat.le_of_ble_eq_true rfl) (Nat.le_of_ble_eq_true rfl) (Nat.le_of_ble_eq_true rfl) dX1_init_7 rfl ar_int (fun t1 e1 => ?_)
  have Z := ax_k2 e1
  have NEW := ax_kS e1
  have K_o := ax_kN e1 K_o (by omega)
  have G := fun q (hq : q < p) => (ax_kF (q := q) e1 (by omega)).trans (G q hq)
  refine ax_putFU (pc' := 12) ff_X1_9 rfl K_o rfl (fun _ => ⟨rfl, rfl⟩) dX1_init_9 rfl (fun t2 e2 => ?_)
  have Z := (ax_k2 e2).trans Z
  have K_o := ax_kS e2
  have K_who := ax_kN e2 NEW (by omega)
  have G := fun q (hq : q < p) => (ax_kF (q := q) e2 (by omega)).trans (G q hq)
  refine ax_aload_n (pc' := 13) rfl dX1_init_12 rfl ?_
  refine ax_bipush (pc' := 15) (v := (nI 9)) kb_9 dX1_init_13 rfl ?_
  refine ax_newiU (pc' := 17) Z rfl (Nat.le_of_ble_eq_true rfl) (Nat.le_of_ble_eq_true rfl) (Nat.le_of_ble_eq_true rfl) dX1_init_15 rfl ar_int (fun t3 e3 => ?_)
  have Z := ax_k2 e3
  have NEW := ax_kS e3
  have K_o := ax_kN e3 K_o (by omega)
  have K_who := ax_kN e3 K_who (by omega)
  have G := fun q (hq : q < p) => (ax_kF (q := q) e3 (by omega)).trans (G q hq)
  refine ax_putFU (pc' := 20) ff_X1_15 rfl K_o rfl (fun _ => ⟨rfl, rfl⟩) dX1_init_17 rfl (fun t4 e4 => ?_)
  have Z := (ax_k2 e4).trans Z
  have K_o := ax_kS e4
  have K_from := ax_kN e4 NEW (by omega)
  have K_who := ax_kN e4 K_who (by omega)
  have G := fun q (hq : q < p) => (ax_kF (q := q) e4 (by omega)).trans (G q hq)
  refine ax_aload_n (pc' := 21) rfl dX1_init_20 rfl ?_
  refine ax_bipush (pc' := 23) (v := (nI 9)) kb_9 dX1_init_21 rfl ?_
  refine ax_newiU (pc' := 25) Z rfl (Nat.le_of_ble_eq_true rfl) (Nat.le_of_ble_eq_true rfl) (Nat.le_of_ble_eq_true rfl) dX1_init_23 rfl ar_int (fun t5 e5 => ?_)
  have Z := ax_k2 e5
  have NEW := ax_kS e5
  have K_o := ax_kN e5 K_o (by omega)
  have K_who := ax_kN e5 K_who (by omega)
  have K_from := ax_kN e5 K_from (by omega)
  have G := fun q (hq : q < p) => (ax_kF (q := q) e5 (by omega)).trans (G q hq)
  refine ax_putFU (pc' := 28) ff_X1_18 rfl K_o rfl (fun _ => ⟨rfl, rfl⟩) dX1_init_25 rfl (fun t6 e6 => ?_)
  have Z := (ax_k2 e6).trans Z
  have K_o := ax_kS e6
  have K_to := ax_kN e6 NEW (by omega)
  have K_who := ax_kN e6 K_who (by omega)
  have K_from := ax_kN e6 K_from (by omega)
  have G := fun q (hq : q < p) => (ax_kF (q := q) e6 (by omega)).trans (G q hq)
  refine ax_aload_n (pc' := 29) rfl dX1_init_28 rfl ?_
  refine ax_bipush (pc' := 31) (v := (nI 9)) kb_9 dX1_init_29 rfl ?_
  refine ax_newiU (pc' := 33) Z rfl (Nat.le_of_ble_eq_true rfl) (Nat.le_of_ble_eq_true rfl) (Nat.le_of_ble_eq_true rfl) dX1_init_31 rfl ar_int (fun t7 e7 => ?_)
  have Z := ax_k2 e7
  have NEW := ax_kS e7
  have K_o := ax_kN e7 K_o (by omega)
  have K_who := ax_kN e7 K_who (by omega)
  have K_from := ax_kN e7 K_from (by omega)
  have K_to := ax_kN e7 K_to (by omega)
  have G := fun q (hq : q < p) => (ax_kF (q := q) e7 (by omega)).trans (G q hq)
  refine ax_putFU (pc' := 36) ff_X1_21 rfl K_o rfl (fun _ => ⟨rfl, rfl⟩) dX1_init_33 rfl (fun t8 e8 => ?_)
  have Z := (ax_k2 e8).trans Z
  have K_o := ax_kS e8
  have K_stadia := ax_kN e8 NEW (by omega)
  have K_who := ax_kN e8 K_who (by omega)
  have K_from := ax_kN e8 K_from (by omega)
  have K_to := ax_kN e8 K_to (by omega)
  have G := fun q (hq : q < p) => (ax_kF (q := q) e8 (by omega)).trans (G q hq)
  refine ax_aload_n (pc' := 37) rfl dX1_init_36 rfl ?_
  refine ax_iconst (pc' := 38) (v := (nI 0)) kc_0 dX1_init_37 rfl ?_
  refine ax_putu (pc' := 41) fp_X1_24 K_o rfl (fun _ => ⟨rfl, rfl⟩) dX1_init_38 rfl (fun t9 e9 => ?_)
  have Z := (ax_k2 e9).trans Z
  have K_o := ax_kS e9
  have K_who := ax_kN e9 K_who (by omega)
  have K_from := ax_kN e9 K_from (by omega)
  have K_to := ax_kN e9 K_to (by omega)
  have K_stadia := ax_kN e9 K_stadia (by omega)
  have G := fun q (hq : q < p) => (ax_kF (q := q) e9 (by omega)).trans (G q hq)
  refine ax_aload_n (pc' := 42) rfl dX1_init_41 rfl ?_
  refine ax_iconst (pc' := 43) (v := (nI 0)) kc_0 dX1_init_42 rfl ?_
  refine ax_putu (pc' := 46) fp_X1_28 K_o rfl (fun _ => ⟨rfl, rfl⟩) dX1_init_43 rfl (fun t10 e10 => ?_)
  have Z := (ax_k2 e10).trans Z
  have K_o := ax_kS e10
  have K_who := ax_kN e10 K_who (by omega)
  have K_from := ax_kN e10 K_from (by omega)
  have K_to := ax_kN e10 K_to (by omega)
  have K_stadia := ax_kN e10 K_stadia (by omega)
  have G := fun q (hq : q < p) => (ax_kF (q := q) e10 (by omega)).trans (G q hq)
  exact ax_vret dX1_init_46 rfl (Nat.le_of_ble_eq_true rfl) (Nat.le_of_ble_eq_true rfl) (⟨rfl, ⟨_, _, _, _, K_o, K_who, K_from, K_to, K_stadia, fun i hi => absurd hi (Nat.not_lt_zero _)⟩, Z, G⟩)
end NI
