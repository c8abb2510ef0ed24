/-! ===== new objects ===== -/
section NW
variable {F : ax_F} {k w pc pc' : Nat} {ls : List (Option Value)} {st : List Value} {σ : ax_S} {post : Option Value → ax_S → Prop}
theorem ax_newiU {i : Int32} {n z : Nat} (hz : σ.2 = z) (hi : i = nI n) (hn : n ≤ 1000) (hk : k + 1 ≤ F.2.2.1) (hw : w + n ≤ F.2.2.2) (hd : decode F.1.2.1 pc = .ok (.newarray .int, 2)) (hp : pc + 2 = pc') (harr : Cond.arrayClass .int ∈ ax_Big) (kk : ∀ τ : ax_S, τ = (ax_up σ.1 z (.inl (false, n, fun _ => 0)), z + 1) → ax_J F (k + 1) (w + n) pc' ls (.ref z :: st) τ post) : ax_J F k w pc ls (.int i :: st) σ post := by
  subst hz
  exact ax_newi hi hn hk hw hd hp harr (kk _ rfl)
theorem ax_newbU {i : Int32} {n z : Nat} (hz : σ.2 = z) (hi : i = nI n) (hn : n ≤ 1000) (hk : k + 1 ≤ F.2.2.1) (hw : w + n ≤ F.2.2.2) (hd : decode F.1.2.1 pc = .ok (.newarray .byte, 2)) (hp : pc + 2 = pc') (harr : Cond.arrayClass .byte ∈ ax_Big) (kk : ∀ τ : ax_S, τ = (ax_up σ.1 z (.inl (true, n, fun _ => 0)), z + 1) → ax_J F (k + 1) (w + n) pc' ls (.ref z :: st) τ post) : ax_J F k w pc ls (.int i :: st) σ post := by
  subst hz
  exact ax_newb hi hn hk hw hd hp harr (kk _ rfl)
theorem ax_newU {ci idx N z : Nat} {C' : String} {T : u_T} {ty : Nat → FieldType} {fs : List Value} (hz : σ.2 = z) (h1 : vwCl[ci]? = some (C', T, N)) (hty : ∀ k, k < N → parseFieldDescriptor (T k).2.2.1 = some (ty k)) (hcl : Cond.classLink F.1.1.cls idx C' ∈ ax_Big) (hins : Cond.instantiable C' N ∈ ax_Big) (hini : Cond.initialized C' ∈ ax_Big) (hfs : ∀ (x : ax_X) (j : Nat), j < N → defaultValue (ty j) = vp_V (fs.map (ax_cv x)) j) (hk : k + 1 ≤ F.2.2.1) (hw : w + N ≤ F.2.2.2) (hd : decode F.1.2.1 pc = .ok (.new idx, 3)) (hp : pc + 3 = pc') (kk : ∀ τ : ax_S, τ = (ax_up σ.1 z (.inr (ci, fs)), z + 1) → ax_J F (k + 1) (w + N) pc' ls (.ref z :: st) τ post) : ax_J F k w pc ls st σ post := by
  subst hz
  exact ax_new h1 hty hcl hins hini hfs hk hw hd hp (kk _ rfl)
theorem ax_putFU {a ci i idx : Nat} {fs fs' : List Value} {v : Value} {ty : FieldType} (hl : ax_FF F.1.1.cls idx ci i ty) (hnm0 : F.1.1.name = "<init>") (hc : σ.1 a = some (.inr (ci, fs))) (hs : ax_set fs i v some = some fs') (hn : ∀ x : ax_X, narrow ty (ax_cv x v) = ax_cv x v ∧ fits ty (ax_cv x v) = true) (hd : decode F.1.2.1 pc = .ok (.putfield idx, 3)) (hp : pc + 3 = pc') (kk : ∀ τ : ax_S, τ = (ax_up σ.1 a (.inr (ci, fs')), σ.2) → ax_J F k w pc' ls st τ post) : ax_J F k w pc ls (v :: .ref a :: st) σ post :=
  ax_putF hl hnm0 hc hs hn hd hp (kk _ rfl)
end NW
/-- a new object at p, with c cells in all; nothing before it has changed -/
abbrev nw_Po (p c : Nat) (σ : ax_S) (A : ax_H → Prop) : Option Value → ax_S → Prop := fun r τ => r = none ∧ A τ.1 ∧ τ.2 = p + c ∧ ∀ q, q < p → τ.1 q = σ.1 q
section NI
variable {σ : ax_S} {p : Nat} {a1 a2 a3 a4 a5 a6 a7 a8 a9 a10 : Value}
theorem n_Book (K_o : σ.1 p = some (.inr (1, [a1, a2, a3, a4, a5, a6]))) (Z : σ.2 = p + 1) : ax_N mX1_init 1 4 36 [.ref p] σ (nw_Po p 5 σ (fun h => bk_At h p [] 0)) := by
  have G := fun q (hq : q < p) => (rfl : σ.1 q = σ.1 q)
  refine ax_N.of (ls := [some (.ref p)]) (by decide +kernel) rfl (Nat.le_of_ble_eq_true rfl) ?_
  refine ax_aload_n (pc' := 1) rfl dX1_init_0 rfl ?_
  refine ax_objInit (pc' := 4) lo_X1_3 lo_inst lo_code (Nat.le_of_ble_eq_true rfl) (Nat.le_of_ble_eq_true rfl) dX1_init_1 rfl ?_
  refine ax_aload_n (pc' := 5) rfl dX1_init_4 rfl ?_
  refine ax_bipush (pc' := 7) (v := (nI 9)) kb_9 dX1_init_5 rfl ?_
  refine ax_newiU (pc' := 9) Z rfl (Nat.le_of_ble_eq_true rfl) (Nat.le_of_ble_eq_true rfl) (Nat.le_of_ble_eq_true rfl) dX1_init_7 rfl ar_int (fun t1 e1 => ?_)
  replace Z := ax_k2 e1
  have NEW := ax_kS e1
  replace K_o := ax_kN e1 K_o (by omega)
  replace G := fun q (hq : q < p) => (ax_kF (q := q) e1 (by omega)).trans (G q hq)
  clear e1
  refine ax_putFU (pc' := 12) ff_X1_9 rfl K_o rfl (fun _ => ⟨rfl, rfl⟩) dX1_init_9 rfl (fun t2 e2 => ?_)
  replace Z := (ax_k2 e2).trans Z
  replace K_o := ax_kS e2
  have K_who := ax_kN e2 NEW (by omega)
  replace G := fun q (hq : q < p) => (ax_kF (q := q) e2 (by omega)).trans (G q hq)
  clear e2 NEW
  refine ax_aload_n (pc' := 13) rfl dX1_init_12 rfl ?_
  refine ax_bipush (pc' := 15) (v := (nI 9)) kb_9 dX1_init_13 rfl ?_
  refine ax_newiU (pc' := 17) Z rfl (Nat.le_of_ble_eq_true rfl) (Nat.le_of_ble_eq_true rfl) (Nat.le_of_ble_eq_true rfl) dX1_init_15 rfl ar_int (fun t3 e3 => ?_)
  replace Z := ax_k2 e3
  have NEW := ax_kS e3
  replace K_o := ax_kN e3 K_o (by omega)
  replace K_who := ax_kN e3 K_who (by omega)
  replace G := fun q (hq : q < p) => (ax_kF (q := q) e3 (by omega)).trans (G q hq)
  clear e3
  refine ax_putFU (pc' := 20) ff_X1_15 rfl K_o rfl (fun _ => ⟨rfl, rfl⟩) dX1_init_17 rfl (fun t4 e4 => ?_)
  replace Z := (ax_k2 e4).trans Z
  replace K_o := ax_kS e4
  have K_from := ax_kN e4 NEW (by omega)
  replace K_who := ax_kN e4 K_who (by omega)
  replace G := fun q (hq : q < p) => (ax_kF (q := q) e4 (by omega)).trans (G q hq)
  clear e4 NEW
  refine ax_aload_n (pc' := 21) rfl dX1_init_20 rfl ?_
  refine ax_bipush (pc' := 23) (v := (nI 9)) kb_9 dX1_init_21 rfl ?_
  refine ax_newiU (pc' := 25) Z rfl (Nat.le_of_ble_eq_true rfl) (Nat.le_of_ble_eq_true rfl) (Nat.le_of_ble_eq_true rfl) dX1_init_23 rfl ar_int (fun t5 e5 => ?_)
  replace Z := ax_k2 e5
  have NEW := ax_kS e5
  replace K_o := ax_kN e5 K_o (by omega)
  replace K_who := ax_kN e5 K_who (by omega)
  replace K_from := ax_kN e5 K_from (by omega)
  replace G := fun q (hq : q < p) => (ax_kF (q := q) e5 (by omega)).trans (G q hq)
  clear e5
  refine ax_putFU (pc' := 28) ff_X1_18 rfl K_o rfl (fun _ => ⟨rfl, rfl⟩) dX1_init_25 rfl (fun t6 e6 => ?_)
  replace Z := (ax_k2 e6).trans Z
  replace K_o := ax_kS e6
  have K_to := ax_kN e6 NEW (by omega)
  replace K_who := ax_kN e6 K_who (by omega)
  replace K_from := ax_kN e6 K_from (by omega)
  replace G := fun q (hq : q < p) => (ax_kF (q := q) e6 (by omega)).trans (G q hq)
  clear e6 NEW
  refine ax_aload_n (pc' := 29) rfl dX1_init_28 rfl ?_
  refine ax_bipush (pc' := 31) (v := (nI 9)) kb_9 dX1_init_29 rfl ?_
  refine ax_newiU (pc' := 33) Z rfl (Nat.le_of_ble_eq_true rfl) (Nat.le_of_ble_eq_true rfl) (Nat.le_of_ble_eq_true rfl) dX1_init_31 rfl ar_int (fun t7 e7 => ?_)
  replace Z := ax_k2 e7
  have NEW := ax_kS e7
  replace K_o := ax_kN e7 K_o (by omega)
  replace K_who := ax_kN e7 K_who (by omega)
  replace K_from := ax_kN e7 K_from (by omega)
  replace K_to := ax_kN e7 K_to (by omega)
  replace G := fun q (hq : q < p) => (ax_kF (q := q) e7 (by omega)).trans (G q hq)
  clear e7
  refine ax_putFU (pc' := 36) ff_X1_21 rfl K_o rfl (fun _ => ⟨rfl, rfl⟩) dX1_init_33 rfl (fun t8 e8 => ?_)
  replace Z := (ax_k2 e8).trans Z
  replace K_o := ax_kS e8
  have K_stadia := ax_kN e8 NEW (by omega)
  replace K_who := ax_kN e8 K_who (by omega)
  replace K_from := ax_kN e8 K_from (by omega)
  replace K_to := ax_kN e8 K_to (by omega)
  replace G := fun q (hq : q < p) => (ax_kF (q := q) e8 (by omega)).trans (G q hq)
  clear e8 NEW
  refine ax_aload_n (pc' := 37) rfl dX1_init_36 rfl ?_
  refine ax_iconst (pc' := 38) (v := (nI 0)) kc_0 dX1_init_37 rfl ?_
  refine ax_putu (pc' := 41) fp_X1_24 K_o rfl (fun _ => ⟨rfl, rfl⟩) dX1_init_38 rfl (fun t9 e9 => ?_)
  replace Z := (ax_k2 e9).trans Z
  replace K_o := ax_kS e9
  replace K_who := ax_kN e9 K_who (by omega)
  replace K_from := ax_kN e9 K_from (by omega)
  replace K_to := ax_kN e9 K_to (by omega)
  replace K_stadia := ax_kN e9 K_stadia (by omega)
  replace G := fun q (hq : q < p) => (ax_kF (q := q) e9 (by omega)).trans (G q hq)
  clear e9
  refine ax_aload_n (pc' := 42) rfl dX1_init_41 rfl ?_
  refine ax_iconst (pc' := 43) (v := (nI 0)) kc_0 dX1_init_42 rfl ?_
  refine ax_putu (pc' := 46) fp_X1_28 K_o rfl (fun _ => ⟨rfl, rfl⟩) dX1_init_43 rfl (fun t10 e10 => ?_)
  replace Z := (ax_k2 e10).trans Z
  replace K_o := ax_kS e10
  replace K_who := ax_kN e10 K_who (by omega)
  replace K_from := ax_kN e10 K_from (by omega)
  replace K_to := ax_kN e10 K_to (by omega)
  replace K_stadia := ax_kN e10 K_stadia (by omega)
  replace G := fun q (hq : q < p) => (ax_kF (q := q) e10 (by omega)).trans (G q hq)
  clear e10
  exact ax_vret dX1_init_46 rfl (Nat.le_of_ble_eq_true rfl) (Nat.le_of_ble_eq_true rfl) (⟨rfl, ⟨_, _, _, _, K_o, K_who, K_from, K_to, K_stadia, fun i hi => absurd hi (Nat.not_lt_zero _)⟩, Z, G⟩)
theorem n_Paper (P_o : σ.1 1 = some (.inr (3, [a1, a2]))) (Z : σ.2 = 2) : ax_N mX3_init 1 1 200 [.ref 1] σ (nw_Po 1 2 σ (fun h => ∀ tx, pa_At h 0 tx)) := by
  have G := fun q (hq : q < 1) => (rfl : σ.1 q = σ.1 q)
  refine ax_N.of (ls := [some (.ref 1)]) (by decide +kernel) rfl (Nat.le_of_ble_eq_true rfl) ?_
  refine ax_aload_n (pc' := 1) rfl dX3_init_0 rfl ?_
  refine ax_objInit (pc' := 4) lo_X3_3 lo_inst lo_code (Nat.le_of_ble_eq_true rfl) (Nat.le_of_ble_eq_true rfl) dX3_init_1 rfl ?_
  refine ax_aload_n (pc' := 5) rfl dX3_init_4 rfl ?_
  refine ax_sipush (pc' := 8) (v := (nI 200)) ks_200 dX3_init_5 rfl ?_
  refine ax_newiU (pc' := 10) Z rfl (Nat.le_of_ble_eq_true rfl) (Nat.le_of_ble_eq_true rfl) (Nat.le_of_ble_eq_true rfl) dX3_init_8 rfl ar_int (fun t1 e1 => ?_)
  replace Z := ax_k2 e1
  have NEW := ax_kS e1
  replace P_o := ax_kN e1 P_o (by omega)
  replace G := fun q (hq : q < 1) => (ax_kF (q := q) e1 (by omega)).trans (G q hq)
  clear e1
  refine ax_putFU (pc' := 13) ff_X3_9 rfl P_o rfl (fun _ => ⟨rfl, rfl⟩) dX3_init_10 rfl (fun t2 e2 => ?_)
  replace Z := (ax_k2 e2).trans Z
  replace P_o := ax_kS e2
  have P_letters := ax_kN e2 NEW (by omega)
  replace G := fun q (hq : q < 1) => (ax_kF (q := q) e2 (by omega)).trans (G q hq)
  clear e2 NEW
  refine ax_aload_n (pc' := 14) rfl dX3_init_13 rfl ?_
  refine ax_iconst (pc' := 15) (v := (nI 0)) kc_0 dX3_init_14 rfl ?_
  refine ax_putu (pc' := 18) fp_X3_15 P_o rfl (fun _ => ⟨rfl, rfl⟩) dX3_init_15 rfl (fun t3 e3 => ?_)
  replace Z := (ax_k2 e3).trans Z
  replace P_o := ax_kS e3
  replace P_letters := ax_kN e3 P_letters (by omega)
  replace G := fun q (hq : q < 1) => (ax_kF (q := q) e3 (by omega)).trans (G q hq)
  clear e3
  exact ax_vret dX3_init_18 rfl (Nat.le_of_ble_eq_true rfl) (Nat.le_of_ble_eq_true rfl) (⟨rfl, fun tx => ⟨_, P_o, P_letters, fun i hi => absurd hi (Nat.not_lt_zero _)⟩, Z, G⟩)
theorem n_Reader (R_o : σ.1 3 = some (.inr (4, [a1, a2]))) (Z : σ.2 = 4) : ax_N mX4_init 1 1 3 [.ref 3] σ (nw_Po 3 2 σ (fun h => rd_Any h)) := by
  have G := fun q (hq : q < 3) => (rfl : σ.1 q = σ.1 q)
  refine ax_N.of (ls := [some (.ref 3)]) (by decide +kernel) rfl (Nat.le_of_ble_eq_true rfl) ?_
  refine ax_aload_n (pc' := 1) rfl dX4_init_0 rfl ?_
  refine ax_objInit (pc' := 4) lo_X4_3 lo_inst lo_code (Nat.le_of_ble_eq_true rfl) (Nat.le_of_ble_eq_true rfl) dX4_init_1 rfl ?_
  refine ax_aload_n (pc' := 5) rfl dX4_init_4 rfl ?_
  refine ax_iconst (pc' := 6) (v := (nI 3)) kc_3 dX4_init_5 rfl ?_
  refine ax_newiU (pc' := 8) Z rfl (Nat.le_of_ble_eq_true rfl) (Nat.le_of_ble_eq_true rfl) (Nat.le_of_ble_eq_true rfl) dX4_init_6 rfl ar_int (fun t1 e1 => ?_)
  replace Z := ax_k2 e1
  have NEW := ax_kS e1
  replace R_o := ax_kN e1 R_o (by omega)
  replace G := fun q (hq : q < 3) => (ax_kF (q := q) e1 (by omega)).trans (G q hq)
  clear e1
  refine ax_putFU (pc' := 11) ff_X4_9 rfl R_o rfl (fun _ => ⟨rfl, rfl⟩) dX4_init_8 rfl (fun t2 e2 => ?_)
  replace Z := (ax_k2 e2).trans Z
  replace R_o := ax_kS e2
  have R_numbers := ax_kN e2 NEW (by omega)
  replace G := fun q (hq : q < 3) => (ax_kF (q := q) e2 (by omega)).trans (G q hq)
  clear e2 NEW
  refine ax_aload_n (pc' := 12) rfl dX4_init_11 rfl ?_
  refine ax_iconst (pc' := 13) (v := (nI 0)) kc_0 dX4_init_12 rfl ?_
  refine ax_putu (pc' := 16) fp_X4_15 R_o rfl (fun _ => ⟨rfl, rfl⟩) dX4_init_13 rfl (fun t3 e3 => ?_)
  replace Z := (ax_k2 e3).trans Z
  replace R_o := ax_kS e3
  replace R_numbers := ax_kN e3 R_numbers (by omega)
  replace G := fun q (hq : q < 3) => (ax_kF (q := q) e3 (by omega)).trans (G q hq)
  clear e3
  exact ax_vret dX4_init_16 rfl (Nat.le_of_ble_eq_true rfl) (Nat.le_of_ble_eq_true rfl) (⟨rfl, ⟨_, _, R_o, R_numbers⟩, Z, G⟩)
theorem n_Trail (T_o : σ.1 25 = some (.inr (6, [a1, a2, a3, a4, a5, a6, a7]))) (Z : σ.2 = 26) : ax_N mX6_init 1 6 48 [.ref 25] σ (nw_Po 25 7 σ (fun h => tr_At h [])) := by
  have G := fun q (hq : q < 25) => (rfl : σ.1 q = σ.1 q)
  refine ax_N.of (ls := [some (.ref 25)]) (by decide +kernel) rfl (Nat.le_of_ble_eq_true rfl) ?_
  refine ax_aload_n (pc' := 1) rfl dX6_init_0 rfl ?_
  refine ax_objInit (pc' := 4) lo_X6_3 lo_inst lo_code (Nat.le_of_ble_eq_true rfl) (Nat.le_of_ble_eq_true rfl) dX6_init_1 rfl ?_
  refine ax_aload_n (pc' := 5) rfl dX6_init_4 rfl ?_
  refine ax_bipush (pc' := 7) (v := (nI 8)) kb_8 dX6_init_5 rfl ?_
  refine ax_newiU (pc' := 9) Z rfl (Nat.le_of_ble_eq_true rfl) (Nat.le_of_ble_eq_true rfl) (Nat.le_of_ble_eq_true rfl) dX6_init_7 rfl ar_int (fun t1 e1 => ?_)
  replace Z := ax_k2 e1
  have NEW := ax_kS e1
  replace T_o := ax_kN e1 T_o (by omega)
  replace G := fun q (hq : q < 25) => (ax_kF (q := q) e1 (by omega)).trans (G q hq)
  clear e1
  refine ax_putFU (pc' := 12) ff_X6_9 rfl T_o rfl (fun _ => ⟨rfl, rfl⟩) dX6_init_9 rfl (fun t2 e2 => ?_)
  replace Z := (ax_k2 e2).trans Z
  replace T_o := ax_kS e2
  have T_places := ax_kN e2 NEW (by omega)
  replace G := fun q (hq : q < 25) => (ax_kF (q := q) e2 (by omega)).trans (G q hq)
  clear e2 NEW
  refine ax_aload_n (pc' := 13) rfl dX6_init_12 rfl ?_
  refine ax_bipush (pc' := 15) (v := (nI 8)) kb_8 dX6_init_13 rfl ?_
  refine ax_newiU (pc' := 17) Z rfl (Nat.le_of_ble_eq_true rfl) (Nat.le_of_ble_eq_true rfl) (Nat.le_of_ble_eq_true rfl) dX6_init_15 rfl ar_int (fun t3 e3 => ?_)
  replace Z := ax_k2 e3
  have NEW := ax_kS e3
  replace T_o := ax_kN e3 T_o (by omega)
  replace T_places := ax_kN e3 T_places (by omega)
  replace G := fun q (hq : q < 25) => (ax_kF (q := q) e3 (by omega)).trans (G q hq)
  clear e3
  refine ax_putFU (pc' := 20) ff_X6_15 rfl T_o rfl (fun _ => ⟨rfl, rfl⟩) dX6_init_17 rfl (fun t4 e4 => ?_)
  replace Z := (ax_k2 e4).trans Z
  replace T_o := ax_kS e4
  have T_who := ax_kN e4 NEW (by omega)
  replace T_places := ax_kN e4 T_places (by omega)
  replace G := fun q (hq : q < 25) => (ax_kF (q := q) e4 (by omega)).trans (G q hq)
  clear e4 NEW
  refine ax_aload_n (pc' := 21) rfl dX6_init_20 rfl ?_
  refine ax_bipush (pc' := 23) (v := (nI 8)) kb_8 dX6_init_21 rfl ?_
  refine ax_newiU (pc' := 25) Z rfl (Nat.le_of_ble_eq_true rfl) (Nat.le_of_ble_eq_true rfl) (Nat.le_of_ble_eq_true rfl) dX6_init_23 rfl ar_int (fun t5 e5 => ?_)
  replace Z := ax_k2 e5
  have NEW := ax_kS e5
  replace T_o := ax_kN e5 T_o (by omega)
  replace T_places := ax_kN e5 T_places (by omega)
  replace T_who := ax_kN e5 T_who (by omega)
  replace G := fun q (hq : q < 25) => (ax_kF (q := q) e5 (by omega)).trans (G q hq)
  clear e5
  refine ax_putFU (pc' := 28) ff_X6_18 rfl T_o rfl (fun _ => ⟨rfl, rfl⟩) dX6_init_25 rfl (fun t6 e6 => ?_)
  replace Z := (ax_k2 e6).trans Z
  replace T_o := ax_kS e6
  have T_from := ax_kN e6 NEW (by omega)
  replace T_places := ax_kN e6 T_places (by omega)
  replace T_who := ax_kN e6 T_who (by omega)
  replace G := fun q (hq : q < 25) => (ax_kF (q := q) e6 (by omega)).trans (G q hq)
  clear e6 NEW
  refine ax_aload_n (pc' := 29) rfl dX6_init_28 rfl ?_
  refine ax_bipush (pc' := 31) (v := (nI 8)) kb_8 dX6_init_29 rfl ?_
  refine ax_newiU (pc' := 33) Z rfl (Nat.le_of_ble_eq_true rfl) (Nat.le_of_ble_eq_true rfl) (Nat.le_of_ble_eq_true rfl) dX6_init_31 rfl ar_int (fun t7 e7 => ?_)
  replace Z := ax_k2 e7
  have NEW := ax_kS e7
  replace T_o := ax_kN e7 T_o (by omega)
  replace T_places := ax_kN e7 T_places (by omega)
  replace T_who := ax_kN e7 T_who (by omega)
  replace T_from := ax_kN e7 T_from (by omega)
  replace G := fun q (hq : q < 25) => (ax_kF (q := q) e7 (by omega)).trans (G q hq)
  clear e7
  refine ax_putFU (pc' := 36) ff_X6_21 rfl T_o rfl (fun _ => ⟨rfl, rfl⟩) dX6_init_33 rfl (fun t8 e8 => ?_)
  replace Z := (ax_k2 e8).trans Z
  replace T_o := ax_kS e8
  have T_to := ax_kN e8 NEW (by omega)
  replace T_places := ax_kN e8 T_places (by omega)
  replace T_who := ax_kN e8 T_who (by omega)
  replace T_from := ax_kN e8 T_from (by omega)
  replace G := fun q (hq : q < 25) => (ax_kF (q := q) e8 (by omega)).trans (G q hq)
  clear e8 NEW
  refine ax_aload_n (pc' := 37) rfl dX6_init_36 rfl ?_
  refine ax_bipush (pc' := 39) (v := (nI 8)) kb_8 dX6_init_37 rfl ?_
  refine ax_newiU (pc' := 41) Z rfl (Nat.le_of_ble_eq_true rfl) (Nat.le_of_ble_eq_true rfl) (Nat.le_of_ble_eq_true rfl) dX6_init_39 rfl ar_int (fun t9 e9 => ?_)
  replace Z := ax_k2 e9
  have NEW := ax_kS e9
  replace T_o := ax_kN e9 T_o (by omega)
  replace T_places := ax_kN e9 T_places (by omega)
  replace T_who := ax_kN e9 T_who (by omega)
  replace T_from := ax_kN e9 T_from (by omega)
  replace T_to := ax_kN e9 T_to (by omega)
  replace G := fun q (hq : q < 25) => (ax_kF (q := q) e9 (by omega)).trans (G q hq)
  clear e9
  refine ax_putFU (pc' := 44) ff_X6_24 rfl T_o rfl (fun _ => ⟨rfl, rfl⟩) dX6_init_41 rfl (fun t10 e10 => ?_)
  replace Z := (ax_k2 e10).trans Z
  replace T_o := ax_kS e10
  have T_stadia := ax_kN e10 NEW (by omega)
  replace T_places := ax_kN e10 T_places (by omega)
  replace T_who := ax_kN e10 T_who (by omega)
  replace T_from := ax_kN e10 T_from (by omega)
  replace T_to := ax_kN e10 T_to (by omega)
  replace G := fun q (hq : q < 25) => (ax_kF (q := q) e10 (by omega)).trans (G q hq)
  clear e10 NEW
  refine ax_aload_n (pc' := 45) rfl dX6_init_44 rfl ?_
  refine ax_bipush (pc' := 47) (v := (nI 8)) kb_8 dX6_init_45 rfl ?_
  refine ax_newiU (pc' := 49) Z rfl (Nat.le_of_ble_eq_true rfl) (Nat.le_of_ble_eq_true rfl) (Nat.le_of_ble_eq_true rfl) dX6_init_47 rfl ar_int (fun t11 e11 => ?_)
  replace Z := ax_k2 e11
  have NEW := ax_kS e11
  replace T_o := ax_kN e11 T_o (by omega)
  replace T_places := ax_kN e11 T_places (by omega)
  replace T_who := ax_kN e11 T_who (by omega)
  replace T_from := ax_kN e11 T_from (by omega)
  replace T_to := ax_kN e11 T_to (by omega)
  replace T_stadia := ax_kN e11 T_stadia (by omega)
  replace G := fun q (hq : q < 25) => (ax_kF (q := q) e11 (by omega)).trans (G q hq)
  clear e11
  refine ax_putFU (pc' := 52) ff_X6_27 rfl T_o rfl (fun _ => ⟨rfl, rfl⟩) dX6_init_49 rfl (fun t12 e12 => ?_)
  replace Z := (ax_k2 e12).trans Z
  replace T_o := ax_kS e12
  have T_days := ax_kN e12 NEW (by omega)
  replace T_places := ax_kN e12 T_places (by omega)
  replace T_who := ax_kN e12 T_who (by omega)
  replace T_from := ax_kN e12 T_from (by omega)
  replace T_to := ax_kN e12 T_to (by omega)
  replace T_stadia := ax_kN e12 T_stadia (by omega)
  replace G := fun q (hq : q < 25) => (ax_kF (q := q) e12 (by omega)).trans (G q hq)
  clear e12 NEW
  refine ax_aload_n (pc' := 53) rfl dX6_init_52 rfl ?_
  refine ax_iconst (pc' := 54) (v := (nI 0)) kc_0 dX6_init_53 rfl ?_
  refine ax_putu (pc' := 57) fp_X6_30 T_o rfl (fun _ => ⟨rfl, rfl⟩) dX6_init_54 rfl (fun t13 e13 => ?_)
  replace Z := (ax_k2 e13).trans Z
  replace T_o := ax_kS e13
  replace T_places := ax_kN e13 T_places (by omega)
  replace T_who := ax_kN e13 T_who (by omega)
  replace T_from := ax_kN e13 T_from (by omega)
  replace T_to := ax_kN e13 T_to (by omega)
  replace T_stadia := ax_kN e13 T_stadia (by omega)
  replace T_days := ax_kN e13 T_days (by omega)
  replace G := fun q (hq : q < 25) => (ax_kF (q := q) e13 (by omega)).trans (G q hq)
  clear e13
  exact ax_vret dX6_init_57 rfl (Nat.le_of_ble_eq_true rfl) (Nat.le_of_ble_eq_true rfl) (⟨rfl, ⟨_, _, _, _, _, _, T_o, T_places, T_who, T_from, T_to, T_stadia, T_days, fun i hi => absurd hi (Nat.not_lt_zero _)⟩, Z, G⟩)
theorem n_Sightings (S_o : σ.1 32 = some (.inr (5, [a1, a2, a3, a4, a5]))) (Z : σ.2 = 33) : ax_N mX5_init 1 4 24 [.ref 32] σ (nw_Po 32 5 σ (fun h => sg_At h [])) := by
  have G := fun q (hq : q < 32) => (rfl : σ.1 q = σ.1 q)
  refine ax_N.of (ls := [some (.ref 32)]) (by decide +kernel) rfl (Nat.le_of_ble_eq_true rfl) ?_
  refine ax_aload_n (pc' := 1) rfl dX5_init_0 rfl ?_
  refine ax_objInit (pc' := 4) lo_X5_3 lo_inst lo_code (Nat.le_of_ble_eq_true rfl) (Nat.le_of_ble_eq_true rfl) dX5_init_1 rfl ?_
  refine ax_aload_n (pc' := 5) rfl dX5_init_4 rfl ?_
  refine ax_bipush (pc' := 7) (v := (nI 6)) kb_6 dX5_init_5 rfl ?_
  refine ax_newiU (pc' := 9) Z rfl (Nat.le_of_ble_eq_true rfl) (Nat.le_of_ble_eq_true rfl) (Nat.le_of_ble_eq_true rfl) dX5_init_7 rfl ar_int (fun t1 e1 => ?_)
  replace Z := ax_k2 e1
  have NEW := ax_kS e1
  replace S_o := ax_kN e1 S_o (by omega)
  replace G := fun q (hq : q < 32) => (ax_kF (q := q) e1 (by omega)).trans (G q hq)
  clear e1
  refine ax_putFU (pc' := 12) ff_X5_9 rfl S_o rfl (fun _ => ⟨rfl, rfl⟩) dX5_init_9 rfl (fun t2 e2 => ?_)
  replace Z := (ax_k2 e2).trans Z
  replace S_o := ax_kS e2
  have S_who := ax_kN e2 NEW (by omega)
  replace G := fun q (hq : q < 32) => (ax_kF (q := q) e2 (by omega)).trans (G q hq)
  clear e2 NEW
  refine ax_aload_n (pc' := 13) rfl dX5_init_12 rfl ?_
  refine ax_bipush (pc' := 15) (v := (nI 6)) kb_6 dX5_init_13 rfl ?_
  refine ax_newiU (pc' := 17) Z rfl (Nat.le_of_ble_eq_true rfl) (Nat.le_of_ble_eq_true rfl) (Nat.le_of_ble_eq_true rfl) dX5_init_15 rfl ar_int (fun t3 e3 => ?_)
  replace Z := ax_k2 e3
  have NEW := ax_kS e3
  replace S_o := ax_kN e3 S_o (by omega)
  replace S_who := ax_kN e3 S_who (by omega)
  replace G := fun q (hq : q < 32) => (ax_kF (q := q) e3 (by omega)).trans (G q hq)
  clear e3
  refine ax_putFU (pc' := 20) ff_X5_15 rfl S_o rfl (fun _ => ⟨rfl, rfl⟩) dX5_init_17 rfl (fun t4 e4 => ?_)
  replace Z := (ax_k2 e4).trans Z
  replace S_o := ax_kS e4
  have S_from := ax_kN e4 NEW (by omega)
  replace S_who := ax_kN e4 S_who (by omega)
  replace G := fun q (hq : q < 32) => (ax_kF (q := q) e4 (by omega)).trans (G q hq)
  clear e4 NEW
  refine ax_aload_n (pc' := 21) rfl dX5_init_20 rfl ?_
  refine ax_bipush (pc' := 23) (v := (nI 6)) kb_6 dX5_init_21 rfl ?_
  refine ax_newiU (pc' := 25) Z rfl (Nat.le_of_ble_eq_true rfl) (Nat.le_of_ble_eq_true rfl) (Nat.le_of_ble_eq_true rfl) dX5_init_23 rfl ar_int (fun t5 e5 => ?_)
  replace Z := ax_k2 e5
  have NEW := ax_kS e5
  replace S_o := ax_kN e5 S_o (by omega)
  replace S_who := ax_kN e5 S_who (by omega)
  replace S_from := ax_kN e5 S_from (by omega)
  replace G := fun q (hq : q < 32) => (ax_kF (q := q) e5 (by omega)).trans (G q hq)
  clear e5
  refine ax_putFU (pc' := 28) ff_X5_18 rfl S_o rfl (fun _ => ⟨rfl, rfl⟩) dX5_init_25 rfl (fun t6 e6 => ?_)
  replace Z := (ax_k2 e6).trans Z
  replace S_o := ax_kS e6
  have S_to := ax_kN e6 NEW (by omega)
  replace S_who := ax_kN e6 S_who (by omega)
  replace S_from := ax_kN e6 S_from (by omega)
  replace G := fun q (hq : q < 32) => (ax_kF (q := q) e6 (by omega)).trans (G q hq)
  clear e6 NEW
  refine ax_aload_n (pc' := 29) rfl dX5_init_28 rfl ?_
  refine ax_bipush (pc' := 31) (v := (nI 6)) kb_6 dX5_init_29 rfl ?_
  refine ax_newiU (pc' := 33) Z rfl (Nat.le_of_ble_eq_true rfl) (Nat.le_of_ble_eq_true rfl) (Nat.le_of_ble_eq_true rfl) dX5_init_31 rfl ar_int (fun t7 e7 => ?_)
  replace Z := ax_k2 e7
  have NEW := ax_kS e7
  replace S_o := ax_kN e7 S_o (by omega)
  replace S_who := ax_kN e7 S_who (by omega)
  replace S_from := ax_kN e7 S_from (by omega)
  replace S_to := ax_kN e7 S_to (by omega)
  replace G := fun q (hq : q < 32) => (ax_kF (q := q) e7 (by omega)).trans (G q hq)
  clear e7
  refine ax_putFU (pc' := 36) ff_X5_21 rfl S_o rfl (fun _ => ⟨rfl, rfl⟩) dX5_init_33 rfl (fun t8 e8 => ?_)
  replace Z := (ax_k2 e8).trans Z
  replace S_o := ax_kS e8
  have S_stadia := ax_kN e8 NEW (by omega)
  replace S_who := ax_kN e8 S_who (by omega)
  replace S_from := ax_kN e8 S_from (by omega)
  replace S_to := ax_kN e8 S_to (by omega)
  replace G := fun q (hq : q < 32) => (ax_kF (q := q) e8 (by omega)).trans (G q hq)
  clear e8 NEW
  refine ax_aload_n (pc' := 37) rfl dX5_init_36 rfl ?_
  refine ax_iconst (pc' := 38) (v := (nI 0)) kc_0 dX5_init_37 rfl ?_
  refine ax_putu (pc' := 41) fp_X5_24 S_o rfl (fun _ => ⟨rfl, rfl⟩) dX5_init_38 rfl (fun t9 e9 => ?_)
  replace Z := (ax_k2 e9).trans Z
  replace S_o := ax_kS e9
  replace S_who := ax_kN e9 S_who (by omega)
  replace S_from := ax_kN e9 S_from (by omega)
  replace S_to := ax_kN e9 S_to (by omega)
  replace S_stadia := ax_kN e9 S_stadia (by omega)
  replace G := fun q (hq : q < 32) => (ax_kF (q := q) e9 (by omega)).trans (G q hq)
  clear e9
  exact ax_vret dX5_init_41 rfl (Nat.le_of_ble_eq_true rfl) (Nat.le_of_ble_eq_true rfl) (⟨rfl, ⟨_, _, _, _, S_o, S_who, S_from, S_to, S_stadia, fun i hi => absurd hi (Nat.not_lt_zero _)⟩, Z, G⟩)
theorem n_Girths (G_o : σ.1 37 = some (.inr (2, [a1, a2, a3]))) (Z : σ.2 = 38) : ax_N mX2_init 1 2 18 [.ref 37] σ (nw_Po 37 3 σ (fun h => gi_Any h)) := by
  have G := fun q (hq : q < 37) => (rfl : σ.1 q = σ.1 q)
  refine ax_N.of (ls := [some (.ref 37)]) (by decide +kernel) rfl (Nat.le_of_ble_eq_true rfl) ?_
  refine ax_aload_n (pc' := 1) rfl dX2_init_0 rfl ?_
  refine ax_objInit (pc' := 4) lo_X2_3 lo_inst lo_code (Nat.le_of_ble_eq_true rfl) (Nat.le_of_ble_eq_true rfl) dX2_init_1 rfl ?_
  refine ax_aload_n (pc' := 5) rfl dX2_init_4 rfl ?_
  refine ax_bipush (pc' := 7) (v := (nI 9)) kb_9 dX2_init_5 rfl ?_
  refine ax_newiU (pc' := 9) Z rfl (Nat.le_of_ble_eq_true rfl) (Nat.le_of_ble_eq_true rfl) (Nat.le_of_ble_eq_true rfl) dX2_init_7 rfl ar_int (fun t1 e1 => ?_)
  replace Z := ax_k2 e1
  have NEW := ax_kS e1
  replace G_o := ax_kN e1 G_o (by omega)
  replace G := fun q (hq : q < 37) => (ax_kF (q := q) e1 (by omega)).trans (G q hq)
  clear e1
  refine ax_putFU (pc' := 12) ff_X2_9 rfl G_o rfl (fun _ => ⟨rfl, rfl⟩) dX2_init_9 rfl (fun t2 e2 => ?_)
  replace Z := (ax_k2 e2).trans Z
  replace G_o := ax_kS e2
  have G_asTold := ax_kN e2 NEW (by omega)
  replace G := fun q (hq : q < 37) => (ax_kF (q := q) e2 (by omega)).trans (G q hq)
  clear e2 NEW
  refine ax_aload_n (pc' := 13) rfl dX2_init_12 rfl ?_
  refine ax_bipush (pc' := 15) (v := (nI 9)) kb_9 dX2_init_13 rfl ?_
  refine ax_newiU (pc' := 17) Z rfl (Nat.le_of_ble_eq_true rfl) (Nat.le_of_ble_eq_true rfl) (Nat.le_of_ble_eq_true rfl) dX2_init_15 rfl ar_int (fun t3 e3 => ?_)
  replace Z := ax_k2 e3
  have NEW := ax_kS e3
  replace G_o := ax_kN e3 G_o (by omega)
  replace G_asTold := ax_kN e3 G_asTold (by omega)
  replace G := fun q (hq : q < 37) => (ax_kF (q := q) e3 (by omega)).trans (G q hq)
  clear e3
  refine ax_putFU (pc' := 20) ff_X2_15 rfl G_o rfl (fun _ => ⟨rfl, rfl⟩) dX2_init_17 rfl (fun t4 e4 => ?_)
  replace Z := (ax_k2 e4).trans Z
  replace G_o := ax_kS e4
  have G_miscounted := ax_kN e4 NEW (by omega)
  replace G_asTold := ax_kN e4 G_asTold (by omega)
  replace G := fun q (hq : q < 37) => (ax_kF (q := q) e4 (by omega)).trans (G q hq)
  clear e4 NEW
  refine ax_aload_n (pc' := 21) rfl dX2_init_20 rfl ?_
  refine ax_iconst (pc' := 22) (v := (nI 0)) kc_0 dX2_init_21 rfl ?_
  refine ax_putu (pc' := 25) fp_X2_18 G_o rfl (fun _ => ⟨rfl, rfl⟩) dX2_init_22 rfl (fun t5 e5 => ?_)
  replace Z := (ax_k2 e5).trans Z
  replace G_o := ax_kS e5
  replace G_asTold := ax_kN e5 G_asTold (by omega)
  replace G_miscounted := ax_kN e5 G_miscounted (by omega)
  replace G := fun q (hq : q < 37) => (ax_kF (q := q) e5 (by omega)).trans (G q hq)
  clear e5
  exact ax_vret dX2_init_25 rfl (Nat.le_of_ble_eq_true rfl) (Nat.le_of_ble_eq_true rfl) (⟨rfl, ⟨_, _, _, G_o, G_asTold, G_miscounted⟩, Z, G⟩)
theorem n_Ball (B_o : σ.1 p = some (.inr (0, [a1, a2, a3, a4, a5, a6, a7, a8, a9, a10]))) (Z : σ.2 = p + 1) : ax_N mX0_init 1 7 96 [.ref p] σ (nw_Po p 8 σ (fun h => bl_Any h p)) := by
  have G := fun q (hq : q < p) => (rfl : σ.1 q = σ.1 q)
  refine ax_N.of (ls := [some (.ref p)]) (by decide +kernel) rfl (Nat.le_of_ble_eq_true rfl) ?_
  refine ax_aload_n (pc' := 1) rfl dX0_init_0 rfl ?_
  refine ax_objInit (pc' := 4) lo_X0_3 lo_inst lo_code (Nat.le_of_ble_eq_true rfl) (Nat.le_of_ble_eq_true rfl) dX0_init_1 rfl ?_
  refine ax_aload_n (pc' := 5) rfl dX0_init_4 rfl ?_
  refine ax_bipush (pc' := 7) (v := (nI 6)) kb_6 dX0_init_5 rfl ?_
  refine ax_newiU (pc' := 9) Z rfl (Nat.le_of_ble_eq_true rfl) (Nat.le_of_ble_eq_true rfl) (Nat.le_of_ble_eq_true rfl) dX0_init_7 rfl ar_int (fun t1 e1 => ?_)
  replace Z := ax_k2 e1
  have NEW := ax_kS e1
  replace B_o := ax_kN e1 B_o (by omega)
  replace G := fun q (hq : q < p) => (ax_kF (q := q) e1 (by omega)).trans (G q hq)
  clear e1
  refine ax_putFU (pc' := 12) ff_X0_9 rfl B_o rfl (fun _ => ⟨rfl, rfl⟩) dX0_init_9 rfl (fun t2 e2 => ?_)
  replace Z := (ax_k2 e2).trans Z
  replace B_o := ax_kS e2
  have B_lies := ax_kN e2 NEW (by omega)
  replace G := fun q (hq : q < p) => (ax_kF (q := q) e2 (by omega)).trans (G q hq)
  clear e2 NEW
  refine ax_aload_n (pc' := 13) rfl dX0_init_12 rfl ?_
  refine ax_bipush (pc' := 15) (v := (nI 6)) kb_6 dX0_init_13 rfl ?_
  refine ax_newiU (pc' := 17) Z rfl (Nat.le_of_ble_eq_true rfl) (Nat.le_of_ble_eq_true rfl) (Nat.le_of_ble_eq_true rfl) dX0_init_15 rfl ar_int (fun t3 e3 => ?_)
  replace Z := ax_k2 e3
  have NEW := ax_kS e3
  replace B_o := ax_kN e3 B_o (by omega)
  replace B_lies := ax_kN e3 B_lies (by omega)
  replace G := fun q (hq : q < p) => (ax_kF (q := q) e3 (by omega)).trans (G q hq)
  clear e3
  refine ax_putFU (pc' := 20) ff_X0_15 rfl B_o rfl (fun _ => ⟨rfl, rfl⟩) dX0_init_17 rfl (fun t4 e4 => ?_)
  replace Z := (ax_k2 e4).trans Z
  replace B_o := ax_kS e4
  have B_leans := ax_kN e4 NEW (by omega)
  replace B_lies := ax_kN e4 B_lies (by omega)
  replace G := fun q (hq : q < p) => (ax_kF (q := q) e4 (by omega)).trans (G q hq)
  clear e4 NEW
  refine ax_aload_n (pc' := 21) rfl dX0_init_20 rfl ?_
  refine ax_bipush (pc' := 23) (v := (nI 36)) kb_36 dX0_init_21 rfl ?_
  refine ax_newiU (pc' := 25) Z rfl (Nat.le_of_ble_eq_true rfl) (Nat.le_of_ble_eq_true rfl) (Nat.le_of_ble_eq_true rfl) dX0_init_23 rfl ar_int (fun t5 e5 => ?_)
  replace Z := ax_k2 e5
  have NEW := ax_kS e5
  replace B_o := ax_kN e5 B_o (by omega)
  replace B_lies := ax_kN e5 B_lies (by omega)
  replace B_leans := ax_kN e5 B_leans (by omega)
  replace G := fun q (hq : q < p) => (ax_kF (q := q) e5 (by omega)).trans (G q hq)
  clear e5
  refine ax_putFU (pc' := 28) ff_X0_18 rfl B_o rfl (fun _ => ⟨rfl, rfl⟩) dX0_init_25 rfl (fun t6 e6 => ?_)
  replace Z := (ax_k2 e6).trans Z
  replace B_o := ax_kS e6
  have B_bends := ax_kN e6 NEW (by omega)
  replace B_lies := ax_kN e6 B_lies (by omega)
  replace B_leans := ax_kN e6 B_leans (by omega)
  replace G := fun q (hq : q < p) => (ax_kF (q := q) e6 (by omega)).trans (G q hq)
  clear e6 NEW
  refine ax_aload_n (pc' := 29) rfl dX0_init_28 rfl ?_
  refine ax_bipush (pc' := 31) (v := (nI 36)) kb_36 dX0_init_29 rfl ?_
  refine ax_newiU (pc' := 33) Z rfl (Nat.le_of_ble_eq_true rfl) (Nat.le_of_ble_eq_true rfl) (Nat.le_of_ble_eq_true rfl) dX0_init_31 rfl ar_int (fun t7 e7 => ?_)
  replace Z := ax_k2 e7
  have NEW := ax_kS e7
  replace B_o := ax_kN e7 B_o (by omega)
  replace B_lies := ax_kN e7 B_lies (by omega)
  replace B_leans := ax_kN e7 B_leans (by omega)
  replace B_bends := ax_kN e7 B_bends (by omega)
  replace G := fun q (hq : q < p) => (ax_kF (q := q) e7 (by omega)).trans (G q hq)
  clear e7
  refine ax_putFU (pc' := 36) ff_X0_21 rfl B_o rfl (fun _ => ⟨rfl, rfl⟩) dX0_init_33 rfl (fun t8 e8 => ?_)
  replace Z := (ax_k2 e8).trans Z
  replace B_o := ax_kS e8
  have B_roads := ax_kN e8 NEW (by omega)
  replace B_lies := ax_kN e8 B_lies (by omega)
  replace B_leans := ax_kN e8 B_leans (by omega)
  replace B_bends := ax_kN e8 B_bends (by omega)
  replace G := fun q (hq : q < p) => (ax_kF (q := q) e8 (by omega)).trans (G q hq)
  clear e8 NEW
  refine ax_aload_n (pc' := 37) rfl dX0_init_36 rfl ?_
  refine ax_iconst (pc' := 38) (v := (nI 4)) kc_4 dX0_init_37 rfl ?_
  refine ax_newiU (pc' := 40) Z rfl (Nat.le_of_ble_eq_true rfl) (Nat.le_of_ble_eq_true rfl) (Nat.le_of_ble_eq_true rfl) dX0_init_38 rfl ar_int (fun t9 e9 => ?_)
  replace Z := ax_k2 e9
  have NEW := ax_kS e9
  replace B_o := ax_kN e9 B_o (by omega)
  replace B_lies := ax_kN e9 B_lies (by omega)
  replace B_leans := ax_kN e9 B_leans (by omega)
  replace B_bends := ax_kN e9 B_bends (by omega)
  replace B_roads := ax_kN e9 B_roads (by omega)
  replace G := fun q (hq : q < p) => (ax_kF (q := q) e9 (by omega)).trans (G q hq)
  clear e9
  refine ax_putFU (pc' := 43) ff_X0_24 rfl B_o rfl (fun _ => ⟨rfl, rfl⟩) dX0_init_40 rfl (fun t10 e10 => ?_)
  replace Z := (ax_k2 e10).trans Z
  replace B_o := ax_kS e10
  have B_kinds := ax_kN e10 NEW (by omega)
  replace B_lies := ax_kN e10 B_lies (by omega)
  replace B_leans := ax_kN e10 B_leans (by omega)
  replace B_bends := ax_kN e10 B_bends (by omega)
  replace B_roads := ax_kN e10 B_roads (by omega)
  replace G := fun q (hq : q < p) => (ax_kF (q := q) e10 (by omega)).trans (G q hq)
  clear e10 NEW
  refine ax_aload_n (pc' := 44) rfl dX0_init_43 rfl ?_
  refine ax_iconst (pc' := 45) (v := (nI 4)) kc_4 dX0_init_44 rfl ?_
  refine ax_newiU (pc' := 47) Z rfl (Nat.le_of_ble_eq_true rfl) (Nat.le_of_ble_eq_true rfl) (Nat.le_of_ble_eq_true rfl) dX0_init_45 rfl ar_int (fun t11 e11 => ?_)
  replace Z := ax_k2 e11
  have NEW := ax_kS e11
  replace B_o := ax_kN e11 B_o (by omega)
  replace B_lies := ax_kN e11 B_lies (by omega)
  replace B_leans := ax_kN e11 B_leans (by omega)
  replace B_bends := ax_kN e11 B_bends (by omega)
  replace B_roads := ax_kN e11 B_roads (by omega)
  replace B_kinds := ax_kN e11 B_kinds (by omega)
  replace G := fun q (hq : q < p) => (ax_kF (q := q) e11 (by omega)).trans (G q hq)
  clear e11
  refine ax_putFU (pc' := 50) ff_X0_27 rfl B_o rfl (fun _ => ⟨rfl, rfl⟩) dX0_init_47 rfl (fun t12 e12 => ?_)
  replace Z := (ax_k2 e12).trans Z
  replace B_o := ax_kS e12
  have B_paces := ax_kN e12 NEW (by omega)
  replace B_lies := ax_kN e12 B_lies (by omega)
  replace B_leans := ax_kN e12 B_leans (by omega)
  replace B_bends := ax_kN e12 B_bends (by omega)
  replace B_roads := ax_kN e12 B_roads (by omega)
  replace B_kinds := ax_kN e12 B_kinds (by omega)
  replace G := fun q (hq : q < p) => (ax_kF (q := q) e12 (by omega)).trans (G q hq)
  clear e12 NEW
  refine ax_aload_n (pc' := 51) rfl dX0_init_50 rfl ?_
  refine ax_iconst (pc' := 52) (v := (nI 4)) kc_4 dX0_init_51 rfl ?_
  refine ax_newiU (pc' := 54) Z rfl (Nat.le_of_ble_eq_true rfl) (Nat.le_of_ble_eq_true rfl) (Nat.le_of_ble_eq_true rfl) dX0_init_52 rfl ar_int (fun t13 e13 => ?_)
  replace Z := ax_k2 e13
  have NEW := ax_kS e13
  replace B_o := ax_kN e13 B_o (by omega)
  replace B_lies := ax_kN e13 B_lies (by omega)
  replace B_leans := ax_kN e13 B_leans (by omega)
  replace B_bends := ax_kN e13 B_bends (by omega)
  replace B_roads := ax_kN e13 B_roads (by omega)
  replace B_kinds := ax_kN e13 B_kinds (by omega)
  replace B_paces := ax_kN e13 B_paces (by omega)
  replace G := fun q (hq : q < p) => (ax_kF (q := q) e13 (by omega)).trans (G q hq)
  clear e13
  refine ax_putFU (pc' := 57) ff_X0_30 rfl B_o rfl (fun _ => ⟨rfl, rfl⟩) dX0_init_54 rfl (fun t14 e14 => ?_)
  replace Z := (ax_k2 e14).trans Z
  replace B_o := ax_kS e14
  have B_units := ax_kN e14 NEW (by omega)
  replace B_lies := ax_kN e14 B_lies (by omega)
  replace B_leans := ax_kN e14 B_leans (by omega)
  replace B_bends := ax_kN e14 B_bends (by omega)
  replace B_roads := ax_kN e14 B_roads (by omega)
  replace B_kinds := ax_kN e14 B_kinds (by omega)
  replace B_paces := ax_kN e14 B_paces (by omega)
  replace G := fun q (hq : q < p) => (ax_kF (q := q) e14 (by omega)).trans (G q hq)
  clear e14 NEW
  refine ax_aload_n (pc' := 58) rfl dX0_init_57 rfl ?_
  refine ax_iconst (pc' := 59) (v := (nI 0)) kc_0 dX0_init_58 rfl ?_
  refine ax_putu (pc' := 62) fp_X0_33 B_o rfl (fun _ => ⟨rfl, rfl⟩) dX0_init_59 rfl (fun t15 e15 => ?_)
  replace Z := (ax_k2 e15).trans Z
  replace B_o := ax_kS e15
  replace B_lies := ax_kN e15 B_lies (by omega)
  replace B_leans := ax_kN e15 B_leans (by omega)
  replace B_bends := ax_kN e15 B_bends (by omega)
  replace B_roads := ax_kN e15 B_roads (by omega)
  replace B_kinds := ax_kN e15 B_kinds (by omega)
  replace B_paces := ax_kN e15 B_paces (by omega)
  replace B_units := ax_kN e15 B_units (by omega)
  replace G := fun q (hq : q < p) => (ax_kF (q := q) e15 (by omega)).trans (G q hq)
  clear e15
  refine ax_aload_n (pc' := 63) rfl dX0_init_62 rfl ?_
  refine ax_iconst (pc' := 64) (v := (nI 0)) kc_0 dX0_init_63 rfl ?_
  refine ax_putu (pc' := 67) fp_X0_37 B_o rfl (fun _ => ⟨rfl, rfl⟩) dX0_init_64 rfl (fun t16 e16 => ?_)
  replace Z := (ax_k2 e16).trans Z
  replace B_o := ax_kS e16
  replace B_lies := ax_kN e16 B_lies (by omega)
  replace B_leans := ax_kN e16 B_leans (by omega)
  replace B_bends := ax_kN e16 B_bends (by omega)
  replace B_roads := ax_kN e16 B_roads (by omega)
  replace B_kinds := ax_kN e16 B_kinds (by omega)
  replace B_paces := ax_kN e16 B_paces (by omega)
  replace B_units := ax_kN e16 B_units (by omega)
  replace G := fun q (hq : q < p) => (ax_kF (q := q) e16 (by omega)).trans (G q hq)
  clear e16
  refine ax_aload_n (pc' := 68) rfl dX0_init_67 rfl ?_
  refine ax_iconst (pc' := 69) (v := (nI 0)) kc_0 dX0_init_68 rfl ?_
  refine ax_putu (pc' := 72) fp_X0_40 B_o rfl (fun _ => ⟨rfl, rfl⟩) dX0_init_69 rfl (fun t17 e17 => ?_)
  replace Z := (ax_k2 e17).trans Z
  replace B_o := ax_kS e17
  replace B_lies := ax_kN e17 B_lies (by omega)
  replace B_leans := ax_kN e17 B_leans (by omega)
  replace B_bends := ax_kN e17 B_bends (by omega)
  replace B_roads := ax_kN e17 B_roads (by omega)
  replace B_kinds := ax_kN e17 B_kinds (by omega)
  replace B_paces := ax_kN e17 B_paces (by omega)
  replace B_units := ax_kN e17 B_units (by omega)
  replace G := fun q (hq : q < p) => (ax_kF (q := q) e17 (by omega)).trans (G q hq)
  clear e17
  exact ax_vret dX0_init_72 rfl (Nat.le_of_ble_eq_true rfl) (Nat.le_of_ble_eq_true rfl) (⟨rfl, ⟨_, _, _, _, _, _, _, _, _, _, B_o, B_lies, B_leans, B_bends, B_roads, B_kinds, B_paces, B_units⟩, Z, G⟩)
end NI
