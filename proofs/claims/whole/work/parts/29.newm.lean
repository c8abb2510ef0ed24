/-! ===== a new model ===== -/
def sp_B1 : sp_B := sp_bW (sp_bW (sp_bW (sp_bW (sp_bR (sp_bR (sp_bR (sp_bR (sp_bT (sp_bT (sp_bT (sp_bT sp_b0 24 4) 31 5) 38 4) 60 2) 0 1 6) 1 2 15) 0 2 10) 2 3 30) 0 20 9) 1 25 8) 2 15 9) 3 30 5
def sp_S0 (tx : Nat → Nat) : sp_S := ((0, tx), sp_B1, ([], 0), [], [], [])
section NM
variable {σ : ax_S} {c1 c2 c3 c4 c5 c6 c7 c8 c9 c10 c11 c12 c13 c14 c15 c16 c17 c18 : Value}
theorem n_Model (M_o : σ.1 56 = some (.inr (8, [.int (nI 0), .int (nI 0), c1, c2, c3, .int (nI 0), c4, c5, c6, .int (nI 0), .int (nI 0), c7, c8, c9, .int (nI 0), c10, c11, c12, c13, .int (nI 0), .int (nI 0), .int (nI 0), c14, .int (nI 0), .int (nI 0), .int (nI 0), .int (nI 0), c15, c16, c17, c18]))) (Z : σ.2 = 57) : ax_N mX8_init 1 18 800 [.ref 56] σ (nw_Po 56 19 σ (fun h => ∀ tx, ms_At h (sp_S0 tx))) := by
  have G := fun q (hq : q < 56) => (rfl : σ.1 q = σ.1 q)
  refine ax_N.of (ls := [some (.ref 56)]) (by decide +kernel) rfl (Nat.le_of_ble_eq_true rfl) ?_
  refine ax_aload_n (pc' := 1) rfl dX8_init_0 rfl ?_
  refine ax_objInit (pc' := 4) lo_X8_1 lo_inst lo_code (Nat.le_of_ble_eq_true rfl) (Nat.le_of_ble_eq_true rfl) dX8_init_1 rfl ?_
  refine ax_aload_n (pc' := 5) rfl dX8_init_4 rfl ?_
  refine ax_bipush (pc' := 7) (v := (nI 6)) kb_6 dX8_init_5 rfl ?_
  refine ax_newiU (pc' := 9) Z rfl (Nat.le_of_ble_eq_true rfl) (Nat.le_of_ble_eq_true rfl) (Nat.le_of_ble_eq_true rfl) dX8_init_7 rfl ar_int (fun t1 e1 => ?_)
  replace Z := ax_k2 e1
  have NEW := ax_kS e1
  replace M_o := ax_kN e1 M_o (by omega)
  replace G := fun q (hq : q < 56) => (ax_kF (q := q) e1 (by omega)).trans (G q hq)
  clear e1
  refine ax_putFU (pc' := 12) ff_X8_7 rfl M_o rfl (fun _ => ⟨rfl, rfl⟩) dX8_init_9 rfl (fun t2 e2 => ?_)
  replace Z := (ax_k2 e2).trans Z
  replace M_o := ax_kS e2
  have M_north := ax_kN e2 NEW (by omega)
  replace G := fun q (hq : q < 56) => (ax_kF (q := q) e2 (by omega)).trans (G q hq)
  clear e2 NEW
  refine ax_aload_n (pc' := 13) rfl dX8_init_12 rfl ?_
  refine ax_bipush (pc' := 15) (v := (nI 6)) kb_6 dX8_init_13 rfl ?_
  refine ax_newiU (pc' := 17) Z rfl (Nat.le_of_ble_eq_true rfl) (Nat.le_of_ble_eq_true rfl) (Nat.le_of_ble_eq_true rfl) dX8_init_15 rfl ar_int (fun t3 e3 => ?_)
  replace Z := ax_k2 e3
  have NEW := ax_kS e3
  replace M_o := ax_kN e3 M_o (by omega)
  replace M_north := ax_kN e3 M_north (by omega)
  replace G := fun q (hq : q < 56) => (ax_kF (q := q) e3 (by omega)).trans (G q hq)
  clear e3
  refine ax_putFU (pc' := 20) ff_X8_13 rfl M_o rfl (fun _ => ⟨rfl, rfl⟩) dX8_init_17 rfl (fun t4 e4 => ?_)
  replace Z := (ax_k2 e4).trans Z
  replace M_o := ax_kS e4
  have M_lean := ax_kN e4 NEW (by omega)
  replace M_north := ax_kN e4 M_north (by omega)
  replace G := fun q (hq : q < 56) => (ax_kF (q := q) e4 (by omega)).trans (G q hq)
  clear e4 NEW
  refine ax_aload_n (pc' := 21) rfl dX8_init_20 rfl ?_
  refine ax_bipush (pc' := 23) (v := (nI 36)) kb_36 dX8_init_21 rfl ?_
  refine ax_newiU (pc' := 25) Z rfl (Nat.le_of_ble_eq_true rfl) (Nat.le_of_ble_eq_true rfl) (Nat.le_of_ble_eq_true rfl) dX8_init_23 rfl ar_int (fun t5 e5 => ?_)
  replace Z := ax_k2 e5
  have NEW := ax_kS e5
  replace M_o := ax_kN e5 M_o (by omega)
  replace M_north := ax_kN e5 M_north (by omega)
  replace M_lean := ax_kN e5 M_lean (by omega)
  replace G := fun q (hq : q < 56) => (ax_kF (q := q) e5 (by omega)).trans (G q hq)
  clear e5
  refine ax_putFU (pc' := 28) ff_X8_16 rfl M_o rfl (fun _ => ⟨rfl, rfl⟩) dX8_init_25 rfl (fun t6 e6 => ?_)
  replace Z := (ax_k2 e6).trans Z
  replace M_o := ax_kS e6
  have M_bend := ax_kN e6 NEW (by omega)
  replace M_north := ax_kN e6 M_north (by omega)
  replace M_lean := ax_kN e6 M_lean (by omega)
  replace G := fun q (hq : q < 56) => (ax_kF (q := q) e6 (by omega)).trans (G q hq)
  clear e6 NEW
  refine ax_aload_n (pc' := 29) rfl dX8_init_28 rfl ?_
  refine ax_iconst (pc' := 30) (v := (nI 4)) kc_4 dX8_init_29 rfl ?_
  refine ax_newiU (pc' := 32) Z rfl (Nat.le_of_ble_eq_true rfl) (Nat.le_of_ble_eq_true rfl) (Nat.le_of_ble_eq_true rfl) dX8_init_30 rfl ar_int (fun t7 e7 => ?_)
  replace Z := ax_k2 e7
  have NEW := ax_kS e7
  replace M_o := ax_kN e7 M_o (by omega)
  replace M_north := ax_kN e7 M_north (by omega)
  replace M_lean := ax_kN e7 M_lean (by omega)
  replace M_bend := ax_kN e7 M_bend (by omega)
  replace G := fun q (hq : q < 56) => (ax_kF (q := q) e7 (by omega)).trans (G q hq)
  clear e7
  refine ax_putFU (pc' := 35) ff_X8_19 rfl M_o rfl (fun _ => ⟨rfl, rfl⟩) dX8_init_32 rfl (fun t8 e8 => ?_)
  replace Z := (ax_k2 e8).trans Z
  replace M_o := ax_kS e8
  have M_sort := ax_kN e8 NEW (by omega)
  replace M_north := ax_kN e8 M_north (by omega)
  replace M_lean := ax_kN e8 M_lean (by omega)
  replace M_bend := ax_kN e8 M_bend (by omega)
  replace G := fun q (hq : q < 56) => (ax_kF (q := q) e8 (by omega)).trans (G q hq)
  clear e8 NEW
  refine ax_aload_n (pc' := 36) rfl dX8_init_35 rfl ?_
  refine ax_iconst (pc' := 37) (v := (nI 4)) kc_4 dX8_init_36 rfl ?_
  refine ax_newiU (pc' := 39) Z rfl (Nat.le_of_ble_eq_true rfl) (Nat.le_of_ble_eq_true rfl) (Nat.le_of_ble_eq_true rfl) dX8_init_37 rfl ar_int (fun t9 e9 => ?_)
  replace Z := ax_k2 e9
  have NEW := ax_kS e9
  replace M_o := ax_kN e9 M_o (by omega)
  replace M_north := ax_kN e9 M_north (by omega)
  replace M_lean := ax_kN e9 M_lean (by omega)
  replace M_bend := ax_kN e9 M_bend (by omega)
  replace M_sort := ax_kN e9 M_sort (by omega)
  replace G := fun q (hq : q < 56) => (ax_kF (q := q) e9 (by omega)).trans (G q hq)
  clear e9
  refine ax_putFU (pc' := 42) ff_X8_22 rfl M_o rfl (fun _ => ⟨rfl, rfl⟩) dX8_init_39 rfl (fun t10 e10 => ?_)
  replace Z := (ax_k2 e10).trans Z
  replace M_o := ax_kS e10
  have M_pace := ax_kN e10 NEW (by omega)
  replace M_north := ax_kN e10 M_north (by omega)
  replace M_lean := ax_kN e10 M_lean (by omega)
  replace M_bend := ax_kN e10 M_bend (by omega)
  replace M_sort := ax_kN e10 M_sort (by omega)
  replace G := fun q (hq : q < 56) => (ax_kF (q := q) e10 (by omega)).trans (G q hq)
  clear e10 NEW
  refine ax_aload_n (pc' := 43) rfl dX8_init_42 rfl ?_
  refine ax_iconst (pc' := 44) (v := (nI 4)) kc_4 dX8_init_43 rfl ?_
  refine ax_newiU (pc' := 46) Z rfl (Nat.le_of_ble_eq_true rfl) (Nat.le_of_ble_eq_true rfl) (Nat.le_of_ble_eq_true rfl) dX8_init_44 rfl ar_int (fun t11 e11 => ?_)
  replace Z := ax_k2 e11
  have NEW := ax_kS e11
  replace M_o := ax_kN e11 M_o (by omega)
  replace M_north := ax_kN e11 M_north (by omega)
  replace M_lean := ax_kN e11 M_lean (by omega)
  replace M_bend := ax_kN e11 M_bend (by omega)
  replace M_sort := ax_kN e11 M_sort (by omega)
  replace M_pace := ax_kN e11 M_pace (by omega)
  replace G := fun q (hq : q < 56) => (ax_kF (q := q) e11 (by omega)).trans (G q hq)
  clear e11
  refine ax_putFU (pc' := 49) ff_X8_25 rfl M_o rfl (fun _ => ⟨rfl, rfl⟩) dX8_init_46 rfl (fun t12 e12 => ?_)
  replace Z := (ax_k2 e12).trans Z
  replace M_o := ax_kS e12
  have M_unit := ax_kN e12 NEW (by omega)
  replace M_north := ax_kN e12 M_north (by omega)
  replace M_lean := ax_kN e12 M_lean (by omega)
  replace M_bend := ax_kN e12 M_bend (by omega)
  replace M_sort := ax_kN e12 M_sort (by omega)
  replace M_pace := ax_kN e12 M_pace (by omega)
  replace G := fun q (hq : q < 56) => (ax_kF (q := q) e12 (by omega)).trans (G q hq)
  clear e12 NEW
  refine ax_aload_n (pc' := 50) rfl dX8_init_49 rfl ?_
  refine ax_bipush (pc' := 52) (v := (nI 6)) kb_6 dX8_init_50 rfl ?_
  refine ax_newiU (pc' := 54) Z rfl (Nat.le_of_ble_eq_true rfl) (Nat.le_of_ble_eq_true rfl) (Nat.le_of_ble_eq_true rfl) dX8_init_52 rfl ar_int (fun t13 e13 => ?_)
  replace Z := ax_k2 e13
  have NEW := ax_kS e13
  replace M_o := ax_kN e13 M_o (by omega)
  replace M_north := ax_kN e13 M_north (by omega)
  replace M_lean := ax_kN e13 M_lean (by omega)
  replace M_bend := ax_kN e13 M_bend (by omega)
  replace M_sort := ax_kN e13 M_sort (by omega)
  replace M_pace := ax_kN e13 M_pace (by omega)
  replace M_unit := ax_kN e13 M_unit (by omega)
  replace G := fun q (hq : q < 56) => (ax_kF (q := q) e13 (by omega)).trans (G q hq)
  clear e13
  refine ax_putFU (pc' := 57) ff_X8_28 rfl M_o rfl (fun _ => ⟨rfl, rfl⟩) dX8_init_54 rfl (fun t14 e14 => ?_)
  replace Z := (ax_k2 e14).trans Z
  replace M_o := ax_kS e14
  have M_newNorth := ax_kN e14 NEW (by omega)
  replace M_north := ax_kN e14 M_north (by omega)
  replace M_lean := ax_kN e14 M_lean (by omega)
  replace M_bend := ax_kN e14 M_bend (by omega)
  replace M_sort := ax_kN e14 M_sort (by omega)
  replace M_pace := ax_kN e14 M_pace (by omega)
  replace M_unit := ax_kN e14 M_unit (by omega)
  replace G := fun q (hq : q < 56) => (ax_kF (q := q) e14 (by omega)).trans (G q hq)
  clear e14 NEW
  refine ax_aload_n (pc' := 58) rfl dX8_init_57 rfl ?_
  refine ax_bipush (pc' := 60) (v := (nI 6)) kb_6 dX8_init_58 rfl ?_
  refine ax_newiU (pc' := 62) Z rfl (Nat.le_of_ble_eq_true rfl) (Nat.le_of_ble_eq_true rfl) (Nat.le_of_ble_eq_true rfl) dX8_init_60 rfl ar_int (fun t15 e15 => ?_)
  replace Z := ax_k2 e15
  have NEW := ax_kS e15
  replace M_o := ax_kN e15 M_o (by omega)
  replace M_north := ax_kN e15 M_north (by omega)
  replace M_lean := ax_kN e15 M_lean (by omega)
  replace M_bend := ax_kN e15 M_bend (by omega)
  replace M_sort := ax_kN e15 M_sort (by omega)
  replace M_pace := ax_kN e15 M_pace (by omega)
  replace M_unit := ax_kN e15 M_unit (by omega)
  replace M_newNorth := ax_kN e15 M_newNorth (by omega)
  replace G := fun q (hq : q < 56) => (ax_kF (q := q) e15 (by omega)).trans (G q hq)
  clear e15
  refine ax_putFU (pc' := 65) ff_X8_31 rfl M_o rfl (fun _ => ⟨rfl, rfl⟩) dX8_init_62 rfl (fun t16 e16 => ?_)
  replace Z := (ax_k2 e16).trans Z
  replace M_o := ax_kS e16
  have M_newLean := ax_kN e16 NEW (by omega)
  replace M_north := ax_kN e16 M_north (by omega)
  replace M_lean := ax_kN e16 M_lean (by omega)
  replace M_bend := ax_kN e16 M_bend (by omega)
  replace M_sort := ax_kN e16 M_sort (by omega)
  replace M_pace := ax_kN e16 M_pace (by omega)
  replace M_unit := ax_kN e16 M_unit (by omega)
  replace M_newNorth := ax_kN e16 M_newNorth (by omega)
  replace G := fun q (hq : q < 56) => (ax_kF (q := q) e16 (by omega)).trans (G q hq)
  clear e16 NEW
  refine ax_aload_n (pc' := 66) rfl dX8_init_65 rfl ?_
  refine ax_bipush (pc' := 68) (v := (nI 36)) kb_36 dX8_init_66 rfl ?_
  refine ax_newiU (pc' := 70) Z rfl (Nat.le_of_ble_eq_true rfl) (Nat.le_of_ble_eq_true rfl) (Nat.le_of_ble_eq_true rfl) dX8_init_68 rfl ar_int (fun t17 e17 => ?_)
  replace Z := ax_k2 e17
  have NEW := ax_kS e17
  replace M_o := ax_kN e17 M_o (by omega)
  replace M_north := ax_kN e17 M_north (by omega)
  replace M_lean := ax_kN e17 M_lean (by omega)
  replace M_bend := ax_kN e17 M_bend (by omega)
  replace M_sort := ax_kN e17 M_sort (by omega)
  replace M_pace := ax_kN e17 M_pace (by omega)
  replace M_unit := ax_kN e17 M_unit (by omega)
  replace M_newNorth := ax_kN e17 M_newNorth (by omega)
  replace M_newLean := ax_kN e17 M_newLean (by omega)
  replace G := fun q (hq : q < 56) => (ax_kF (q := q) e17 (by omega)).trans (G q hq)
  clear e17
  refine ax_putFU (pc' := 73) ff_X8_34 rfl M_o rfl (fun _ => ⟨rfl, rfl⟩) dX8_init_70 rfl (fun t18 e18 => ?_)
  replace Z := (ax_k2 e18).trans Z
  replace M_o := ax_kS e18
  have M_newBend := ax_kN e18 NEW (by omega)
  replace M_north := ax_kN e18 M_north (by omega)
  replace M_lean := ax_kN e18 M_lean (by omega)
  replace M_bend := ax_kN e18 M_bend (by omega)
  replace M_sort := ax_kN e18 M_sort (by omega)
  replace M_pace := ax_kN e18 M_pace (by omega)
  replace M_unit := ax_kN e18 M_unit (by omega)
  replace M_newNorth := ax_kN e18 M_newNorth (by omega)
  replace M_newLean := ax_kN e18 M_newLean (by omega)
  replace G := fun q (hq : q < 56) => (ax_kF (q := q) e18 (by omega)).trans (G q hq)
  clear e18 NEW
  refine ax_aload_n (pc' := 74) rfl dX8_init_73 rfl ?_
  refine ax_iconst (pc' := 75) (v := (nI 4)) kc_4 dX8_init_74 rfl ?_
  refine ax_newiU (pc' := 77) Z rfl (Nat.le_of_ble_eq_true rfl) (Nat.le_of_ble_eq_true rfl) (Nat.le_of_ble_eq_true rfl) dX8_init_75 rfl ar_int (fun t19 e19 => ?_)
  replace Z := ax_k2 e19
  have NEW := ax_kS e19
  replace M_o := ax_kN e19 M_o (by omega)
  replace M_north := ax_kN e19 M_north (by omega)
  replace M_lean := ax_kN e19 M_lean (by omega)
  replace M_bend := ax_kN e19 M_bend (by omega)
  replace M_sort := ax_kN e19 M_sort (by omega)
  replace M_pace := ax_kN e19 M_pace (by omega)
  replace M_unit := ax_kN e19 M_unit (by omega)
  replace M_newNorth := ax_kN e19 M_newNorth (by omega)
  replace M_newLean := ax_kN e19 M_newLean (by omega)
  replace M_newBend := ax_kN e19 M_newBend (by omega)
  replace G := fun q (hq : q < 56) => (ax_kF (q := q) e19 (by omega)).trans (G q hq)
  clear e19
  refine ax_putFU (pc' := 80) ff_X8_37 rfl M_o rfl (fun _ => ⟨rfl, rfl⟩) dX8_init_77 rfl (fun t20 e20 => ?_)
  replace Z := (ax_k2 e20).trans Z
  replace M_o := ax_kS e20
  have M_newSort := ax_kN e20 NEW (by omega)
  replace M_north := ax_kN e20 M_north (by omega)
  replace M_lean := ax_kN e20 M_lean (by omega)
  replace M_bend := ax_kN e20 M_bend (by omega)
  replace M_sort := ax_kN e20 M_sort (by omega)
  replace M_pace := ax_kN e20 M_pace (by omega)
  replace M_unit := ax_kN e20 M_unit (by omega)
  replace M_newNorth := ax_kN e20 M_newNorth (by omega)
  replace M_newLean := ax_kN e20 M_newLean (by omega)
  replace M_newBend := ax_kN e20 M_newBend (by omega)
  replace G := fun q (hq : q < 56) => (ax_kF (q := q) e20 (by omega)).trans (G q hq)
  clear e20 NEW
  refine ax_aload_n (pc' := 81) rfl dX8_init_80 rfl ?_
  refine ax_iconst (pc' := 82) (v := (nI 4)) kc_4 dX8_init_81 rfl ?_
  refine ax_newiU (pc' := 84) Z rfl (Nat.le_of_ble_eq_true rfl) (Nat.le_of_ble_eq_true rfl) (Nat.le_of_ble_eq_true rfl) dX8_init_82 rfl ar_int (fun t21 e21 => ?_)
  replace Z := ax_k2 e21
  have NEW := ax_kS e21
  replace M_o := ax_kN e21 M_o (by omega)
  replace M_north := ax_kN e21 M_north (by omega)
  replace M_lean := ax_kN e21 M_lean (by omega)
  replace M_bend := ax_kN e21 M_bend (by omega)
  replace M_sort := ax_kN e21 M_sort (by omega)
  replace M_pace := ax_kN e21 M_pace (by omega)
  replace M_unit := ax_kN e21 M_unit (by omega)
  replace M_newNorth := ax_kN e21 M_newNorth (by omega)
  replace M_newLean := ax_kN e21 M_newLean (by omega)
  replace M_newBend := ax_kN e21 M_newBend (by omega)
  replace M_newSort := ax_kN e21 M_newSort (by omega)
  replace G := fun q (hq : q < 56) => (ax_kF (q := q) e21 (by omega)).trans (G q hq)
  clear e21
  refine ax_putFU (pc' := 87) ff_X8_40 rfl M_o rfl (fun _ => ⟨rfl, rfl⟩) dX8_init_84 rfl (fun t22 e22 => ?_)
  replace Z := (ax_k2 e22).trans Z
  replace M_o := ax_kS e22
  have M_newPace := ax_kN e22 NEW (by omega)
  replace M_north := ax_kN e22 M_north (by omega)
  replace M_lean := ax_kN e22 M_lean (by omega)
  replace M_bend := ax_kN e22 M_bend (by omega)
  replace M_sort := ax_kN e22 M_sort (by omega)
  replace M_pace := ax_kN e22 M_pace (by omega)
  replace M_unit := ax_kN e22 M_unit (by omega)
  replace M_newNorth := ax_kN e22 M_newNorth (by omega)
  replace M_newLean := ax_kN e22 M_newLean (by omega)
  replace M_newBend := ax_kN e22 M_newBend (by omega)
  replace M_newSort := ax_kN e22 M_newSort (by omega)
  replace G := fun q (hq : q < 56) => (ax_kF (q := q) e22 (by omega)).trans (G q hq)
  clear e22 NEW
  refine ax_aload_n (pc' := 88) rfl dX8_init_87 rfl ?_
  refine ax_iconst (pc' := 89) (v := (nI 4)) kc_4 dX8_init_88 rfl ?_
  refine ax_newiU (pc' := 91) Z rfl (Nat.le_of_ble_eq_true rfl) (Nat.le_of_ble_eq_true rfl) (Nat.le_of_ble_eq_true rfl) dX8_init_89 rfl ar_int (fun t23 e23 => ?_)
  replace Z := ax_k2 e23
  have NEW := ax_kS e23
  replace M_o := ax_kN e23 M_o (by omega)
  replace M_north := ax_kN e23 M_north (by omega)
  replace M_lean := ax_kN e23 M_lean (by omega)
  replace M_bend := ax_kN e23 M_bend (by omega)
  replace M_sort := ax_kN e23 M_sort (by omega)
  replace M_pace := ax_kN e23 M_pace (by omega)
  replace M_unit := ax_kN e23 M_unit (by omega)
  replace M_newNorth := ax_kN e23 M_newNorth (by omega)
  replace M_newLean := ax_kN e23 M_newLean (by omega)
  replace M_newBend := ax_kN e23 M_newBend (by omega)
  replace M_newSort := ax_kN e23 M_newSort (by omega)
  replace M_newPace := ax_kN e23 M_newPace (by omega)
  replace G := fun q (hq : q < 56) => (ax_kF (q := q) e23 (by omega)).trans (G q hq)
  clear e23
  refine ax_putFU (pc' := 94) ff_X8_43 rfl M_o rfl (fun _ => ⟨rfl, rfl⟩) dX8_init_91 rfl (fun t24 e24 => ?_)
  replace Z := (ax_k2 e24).trans Z
  replace M_o := ax_kS e24
  have M_newUnit := ax_kN e24 NEW (by omega)
  replace M_north := ax_kN e24 M_north (by omega)
  replace M_lean := ax_kN e24 M_lean (by omega)
  replace M_bend := ax_kN e24 M_bend (by omega)
  replace M_sort := ax_kN e24 M_sort (by omega)
  replace M_pace := ax_kN e24 M_pace (by omega)
  replace M_unit := ax_kN e24 M_unit (by omega)
  replace M_newNorth := ax_kN e24 M_newNorth (by omega)
  replace M_newLean := ax_kN e24 M_newLean (by omega)
  replace M_newBend := ax_kN e24 M_newBend (by omega)
  replace M_newSort := ax_kN e24 M_newSort (by omega)
  replace M_newPace := ax_kN e24 M_newPace (by omega)
  replace G := fun q (hq : q < 56) => (ax_kF (q := q) e24 (by omega)).trans (G q hq)
  clear e24 NEW
  refine ax_aload_n (pc' := 95) rfl dX8_init_94 rfl ?_
  refine ax_sipush (pc' := 98) (v := (nI 456)) ks_456 dX8_init_95 rfl ?_
  refine ax_newiU (pc' := 100) Z rfl (Nat.le_of_ble_eq_true rfl) (Nat.le_of_ble_eq_true rfl) (Nat.le_of_ble_eq_true rfl) dX8_init_98 rfl ar_int (fun t25 e25 => ?_)
  replace Z := ax_k2 e25
  have NEW := ax_kS e25
  replace M_o := ax_kN e25 M_o (by omega)
  replace M_north := ax_kN e25 M_north (by omega)
  replace M_lean := ax_kN e25 M_lean (by omega)
  replace M_bend := ax_kN e25 M_bend (by omega)
  replace M_sort := ax_kN e25 M_sort (by omega)
  replace M_pace := ax_kN e25 M_pace (by omega)
  replace M_unit := ax_kN e25 M_unit (by omega)
  replace M_newNorth := ax_kN e25 M_newNorth (by omega)
  replace M_newLean := ax_kN e25 M_newLean (by omega)
  replace M_newBend := ax_kN e25 M_newBend (by omega)
  replace M_newSort := ax_kN e25 M_newSort (by omega)
  replace M_newPace := ax_kN e25 M_newPace (by omega)
  replace M_newUnit := ax_kN e25 M_newUnit (by omega)
  replace G := fun q (hq : q < 56) => (ax_kF (q := q) e25 (by omega)).trans (G q hq)
  clear e25
  refine ax_putFU (pc' := 103) ff_X8_46 rfl M_o rfl (fun _ => ⟨rfl, rfl⟩) dX8_init_100 rfl (fun t26 e26 => ?_)
  replace Z := (ax_k2 e26).trans Z
  replace M_o := ax_kS e26
  have M_slot := ax_kN e26 NEW (by omega)
  replace M_north := ax_kN e26 M_north (by omega)
  replace M_lean := ax_kN e26 M_lean (by omega)
  replace M_bend := ax_kN e26 M_bend (by omega)
  replace M_sort := ax_kN e26 M_sort (by omega)
  replace M_pace := ax_kN e26 M_pace (by omega)
  replace M_unit := ax_kN e26 M_unit (by omega)
  replace M_newNorth := ax_kN e26 M_newNorth (by omega)
  replace M_newLean := ax_kN e26 M_newLean (by omega)
  replace M_newBend := ax_kN e26 M_newBend (by omega)
  replace M_newSort := ax_kN e26 M_newSort (by omega)
  replace M_newPace := ax_kN e26 M_newPace (by omega)
  replace M_newUnit := ax_kN e26 M_newUnit (by omega)
  replace G := fun q (hq : q < 56) => (ax_kF (q := q) e26 (by omega)).trans (G q hq)
  clear e26 NEW
  refine ax_aload_n (pc' := 104) rfl dX8_init_103 rfl ?_
  refine ax_sipush (pc' := 107) (v := (nI 200)) ks_200 dX8_init_104 rfl ?_
  refine ax_newbU (pc' := 109) Z rfl (Nat.le_of_ble_eq_true rfl) (Nat.le_of_ble_eq_true rfl) (Nat.le_of_ble_eq_true rfl) dX8_init_107 rfl ar_byte (fun t27 e27 => ?_)
  replace Z := ax_k2 e27
  have NEW := ax_kS e27
  replace M_o := ax_kN e27 M_o (by omega)
  replace M_north := ax_kN e27 M_north (by omega)
  replace M_lean := ax_kN e27 M_lean (by omega)
  replace M_bend := ax_kN e27 M_bend (by omega)
  replace M_sort := ax_kN e27 M_sort (by omega)
  replace M_pace := ax_kN e27 M_pace (by omega)
  replace M_unit := ax_kN e27 M_unit (by omega)
  replace M_newNorth := ax_kN e27 M_newNorth (by omega)
  replace M_newLean := ax_kN e27 M_newLean (by omega)
  replace M_newBend := ax_kN e27 M_newBend (by omega)
  replace M_newSort := ax_kN e27 M_newSort (by omega)
  replace M_newPace := ax_kN e27 M_newPace (by omega)
  replace M_newUnit := ax_kN e27 M_newUnit (by omega)
  replace M_slot := ax_kN e27 M_slot (by omega)
  replace G := fun q (hq : q < 56) => (ax_kF (q := q) e27 (by omega)).trans (G q hq)
  clear e27
  refine ax_putFU (pc' := 112) ff_X8_49 rfl M_o rfl (fun _ => ⟨rfl, rfl⟩) dX8_init_109 rfl (fun t28 e28 => ?_)
  replace Z := (ax_k2 e28).trans Z
  replace M_o := ax_kS e28
  have M_text := ax_kN e28 NEW (by omega)
  replace M_north := ax_kN e28 M_north (by omega)
  replace M_lean := ax_kN e28 M_lean (by omega)
  replace M_bend := ax_kN e28 M_bend (by omega)
  replace M_sort := ax_kN e28 M_sort (by omega)
  replace M_pace := ax_kN e28 M_pace (by omega)
  replace M_unit := ax_kN e28 M_unit (by omega)
  replace M_newNorth := ax_kN e28 M_newNorth (by omega)
  replace M_newLean := ax_kN e28 M_newLean (by omega)
  replace M_newBend := ax_kN e28 M_newBend (by omega)
  replace M_newSort := ax_kN e28 M_newSort (by omega)
  replace M_newPace := ax_kN e28 M_newPace (by omega)
  replace M_newUnit := ax_kN e28 M_newUnit (by omega)
  replace M_slot := ax_kN e28 M_slot (by omega)
  replace G := fun q (hq : q < 56) => (ax_kF (q := q) e28 (by omega)).trans (G q hq)
  clear e28 NEW
  refine ax_aload_n (pc' := 113) rfl dX8_init_112 rfl ?_
  refine ax_bipush (pc' := 115) (v := (nI 6)) kb_6 dX8_init_113 rfl ?_
  refine ax_newiU (pc' := 117) Z rfl (Nat.le_of_ble_eq_true rfl) (Nat.le_of_ble_eq_true rfl) (Nat.le_of_ble_eq_true rfl) dX8_init_115 rfl ar_int (fun t29 e29 => ?_)
  replace Z := ax_k2 e29
  have NEW := ax_kS e29
  replace M_o := ax_kN e29 M_o (by omega)
  replace M_north := ax_kN e29 M_north (by omega)
  replace M_lean := ax_kN e29 M_lean (by omega)
  replace M_bend := ax_kN e29 M_bend (by omega)
  replace M_sort := ax_kN e29 M_sort (by omega)
  replace M_pace := ax_kN e29 M_pace (by omega)
  replace M_unit := ax_kN e29 M_unit (by omega)
  replace M_newNorth := ax_kN e29 M_newNorth (by omega)
  replace M_newLean := ax_kN e29 M_newLean (by omega)
  replace M_newBend := ax_kN e29 M_newBend (by omega)
  replace M_newSort := ax_kN e29 M_newSort (by omega)
  replace M_newPace := ax_kN e29 M_newPace (by omega)
  replace M_newUnit := ax_kN e29 M_newUnit (by omega)
  replace M_slot := ax_kN e29 M_slot (by omega)
  replace M_text := ax_kN e29 M_text (by omega)
  replace G := fun q (hq : q < 56) => (ax_kF (q := q) e29 (by omega)).trans (G q hq)
  clear e29
  refine ax_putFU (pc' := 120) ff_X8_53 rfl M_o rfl (fun _ => ⟨rfl, rfl⟩) dX8_init_117 rfl (fun t30 e30 => ?_)
  replace Z := (ax_k2 e30).trans Z
  replace M_o := ax_kS e30
  have M_sawWho := ax_kN e30 NEW (by omega)
  replace M_north := ax_kN e30 M_north (by omega)
  replace M_lean := ax_kN e30 M_lean (by omega)
  replace M_bend := ax_kN e30 M_bend (by omega)
  replace M_sort := ax_kN e30 M_sort (by omega)
  replace M_pace := ax_kN e30 M_pace (by omega)
  replace M_unit := ax_kN e30 M_unit (by omega)
  replace M_newNorth := ax_kN e30 M_newNorth (by omega)
  replace M_newLean := ax_kN e30 M_newLean (by omega)
  replace M_newBend := ax_kN e30 M_newBend (by omega)
  replace M_newSort := ax_kN e30 M_newSort (by omega)
  replace M_newPace := ax_kN e30 M_newPace (by omega)
  replace M_newUnit := ax_kN e30 M_newUnit (by omega)
  replace M_slot := ax_kN e30 M_slot (by omega)
  replace M_text := ax_kN e30 M_text (by omega)
  replace G := fun q (hq : q < 56) => (ax_kF (q := q) e30 (by omega)).trans (G q hq)
  clear e30 NEW
  refine ax_aload_n (pc' := 121) rfl dX8_init_120 rfl ?_
  refine ax_bipush (pc' := 123) (v := (nI 6)) kb_6 dX8_init_121 rfl ?_
  refine ax_newiU (pc' := 125) Z rfl (Nat.le_of_ble_eq_true rfl) (Nat.le_of_ble_eq_true rfl) (Nat.le_of_ble_eq_true rfl) dX8_init_123 rfl ar_int (fun t31 e31 => ?_)
  replace Z := ax_k2 e31
  have NEW := ax_kS e31
  replace M_o := ax_kN e31 M_o (by omega)
  replace M_north := ax_kN e31 M_north (by omega)
  replace M_lean := ax_kN e31 M_lean (by omega)
  replace M_bend := ax_kN e31 M_bend (by omega)
  replace M_sort := ax_kN e31 M_sort (by omega)
  replace M_pace := ax_kN e31 M_pace (by omega)
  replace M_unit := ax_kN e31 M_unit (by omega)
  replace M_newNorth := ax_kN e31 M_newNorth (by omega)
  replace M_newLean := ax_kN e31 M_newLean (by omega)
  replace M_newBend := ax_kN e31 M_newBend (by omega)
  replace M_newSort := ax_kN e31 M_newSort (by omega)
  replace M_newPace := ax_kN e31 M_newPace (by omega)
  replace M_newUnit := ax_kN e31 M_newUnit (by omega)
  replace M_slot := ax_kN e31 M_slot (by omega)
  replace M_text := ax_kN e31 M_text (by omega)
  replace M_sawWho := ax_kN e31 M_sawWho (by omega)
  replace G := fun q (hq : q < 56) => (ax_kF (q := q) e31 (by omega)).trans (G q hq)
  clear e31
  refine ax_putFU (pc' := 128) ff_X8_56 rfl M_o rfl (fun _ => ⟨rfl, rfl⟩) dX8_init_125 rfl (fun t32 e32 => ?_)
  replace Z := (ax_k2 e32).trans Z
  replace M_o := ax_kS e32
  have M_sawFrom := ax_kN e32 NEW (by omega)
  replace M_north := ax_kN e32 M_north (by omega)
  replace M_lean := ax_kN e32 M_lean (by omega)
  replace M_bend := ax_kN e32 M_bend (by omega)
  replace M_sort := ax_kN e32 M_sort (by omega)
  replace M_pace := ax_kN e32 M_pace (by omega)
  replace M_unit := ax_kN e32 M_unit (by omega)
  replace M_newNorth := ax_kN e32 M_newNorth (by omega)
  replace M_newLean := ax_kN e32 M_newLean (by omega)
  replace M_newBend := ax_kN e32 M_newBend (by omega)
  replace M_newSort := ax_kN e32 M_newSort (by omega)
  replace M_newPace := ax_kN e32 M_newPace (by omega)
  replace M_newUnit := ax_kN e32 M_newUnit (by omega)
  replace M_slot := ax_kN e32 M_slot (by omega)
  replace M_text := ax_kN e32 M_text (by omega)
  replace M_sawWho := ax_kN e32 M_sawWho (by omega)
  replace G := fun q (hq : q < 56) => (ax_kF (q := q) e32 (by omega)).trans (G q hq)
  clear e32 NEW
  refine ax_aload_n (pc' := 129) rfl dX8_init_128 rfl ?_
  refine ax_bipush (pc' := 131) (v := (nI 6)) kb_6 dX8_init_129 rfl ?_
  refine ax_newiU (pc' := 133) Z rfl (Nat.le_of_ble_eq_true rfl) (Nat.le_of_ble_eq_true rfl) (Nat.le_of_ble_eq_true rfl) dX8_init_131 rfl ar_int (fun t33 e33 => ?_)
  replace Z := ax_k2 e33
  have NEW := ax_kS e33
  replace M_o := ax_kN e33 M_o (by omega)
  replace M_north := ax_kN e33 M_north (by omega)
  replace M_lean := ax_kN e33 M_lean (by omega)
  replace M_bend := ax_kN e33 M_bend (by omega)
  replace M_sort := ax_kN e33 M_sort (by omega)
  replace M_pace := ax_kN e33 M_pace (by omega)
  replace M_unit := ax_kN e33 M_unit (by omega)
  replace M_newNorth := ax_kN e33 M_newNorth (by omega)
  replace M_newLean := ax_kN e33 M_newLean (by omega)
  replace M_newBend := ax_kN e33 M_newBend (by omega)
  replace M_newSort := ax_kN e33 M_newSort (by omega)
  replace M_newPace := ax_kN e33 M_newPace (by omega)
  replace M_newUnit := ax_kN e33 M_newUnit (by omega)
  replace M_slot := ax_kN e33 M_slot (by omega)
  replace M_text := ax_kN e33 M_text (by omega)
  replace M_sawWho := ax_kN e33 M_sawWho (by omega)
  replace M_sawFrom := ax_kN e33 M_sawFrom (by omega)
  replace G := fun q (hq : q < 56) => (ax_kF (q := q) e33 (by omega)).trans (G q hq)
  clear e33
  refine ax_putFU (pc' := 136) ff_X8_59 rfl M_o rfl (fun _ => ⟨rfl, rfl⟩) dX8_init_133 rfl (fun t34 e34 => ?_)
  replace Z := (ax_k2 e34).trans Z
  replace M_o := ax_kS e34
  have M_sawTo := ax_kN e34 NEW (by omega)
  replace M_north := ax_kN e34 M_north (by omega)
  replace M_lean := ax_kN e34 M_lean (by omega)
  replace M_bend := ax_kN e34 M_bend (by omega)
  replace M_sort := ax_kN e34 M_sort (by omega)
  replace M_pace := ax_kN e34 M_pace (by omega)
  replace M_unit := ax_kN e34 M_unit (by omega)
  replace M_newNorth := ax_kN e34 M_newNorth (by omega)
  replace M_newLean := ax_kN e34 M_newLean (by omega)
  replace M_newBend := ax_kN e34 M_newBend (by omega)
  replace M_newSort := ax_kN e34 M_newSort (by omega)
  replace M_newPace := ax_kN e34 M_newPace (by omega)
  replace M_newUnit := ax_kN e34 M_newUnit (by omega)
  replace M_slot := ax_kN e34 M_slot (by omega)
  replace M_text := ax_kN e34 M_text (by omega)
  replace M_sawWho := ax_kN e34 M_sawWho (by omega)
  replace M_sawFrom := ax_kN e34 M_sawFrom (by omega)
  replace G := fun q (hq : q < 56) => (ax_kF (q := q) e34 (by omega)).trans (G q hq)
  clear e34 NEW
  refine ax_aload_n (pc' := 137) rfl dX8_init_136 rfl ?_
  refine ax_bipush (pc' := 139) (v := (nI 6)) kb_6 dX8_init_137 rfl ?_
  refine ax_newiU (pc' := 141) Z rfl (Nat.le_of_ble_eq_true rfl) (Nat.le_of_ble_eq_true rfl) (Nat.le_of_ble_eq_true rfl) dX8_init_139 rfl ar_int (fun t35 e35 => ?_)
  replace Z := ax_k2 e35
  have NEW := ax_kS e35
  replace M_o := ax_kN e35 M_o (by omega)
  replace M_north := ax_kN e35 M_north (by omega)
  replace M_lean := ax_kN e35 M_lean (by omega)
  replace M_bend := ax_kN e35 M_bend (by omega)
  replace M_sort := ax_kN e35 M_sort (by omega)
  replace M_pace := ax_kN e35 M_pace (by omega)
  replace M_unit := ax_kN e35 M_unit (by omega)
  replace M_newNorth := ax_kN e35 M_newNorth (by omega)
  replace M_newLean := ax_kN e35 M_newLean (by omega)
  replace M_newBend := ax_kN e35 M_newBend (by omega)
  replace M_newSort := ax_kN e35 M_newSort (by omega)
  replace M_newPace := ax_kN e35 M_newPace (by omega)
  replace M_newUnit := ax_kN e35 M_newUnit (by omega)
  replace M_slot := ax_kN e35 M_slot (by omega)
  replace M_text := ax_kN e35 M_text (by omega)
  replace M_sawWho := ax_kN e35 M_sawWho (by omega)
  replace M_sawFrom := ax_kN e35 M_sawFrom (by omega)
  replace M_sawTo := ax_kN e35 M_sawTo (by omega)
  replace G := fun q (hq : q < 56) => (ax_kF (q := q) e35 (by omega)).trans (G q hq)
  clear e35
  refine ax_putFU (pc' := 144) ff_X8_62 rfl M_o rfl (fun _ => ⟨rfl, rfl⟩) dX8_init_141 rfl (fun t36 e36 => ?_)
  replace Z := (ax_k2 e36).trans Z
  replace M_o := ax_kS e36
  have M_sawMany := ax_kN e36 NEW (by omega)
  replace M_north := ax_kN e36 M_north (by omega)
  replace M_lean := ax_kN e36 M_lean (by omega)
  replace M_bend := ax_kN e36 M_bend (by omega)
  replace M_sort := ax_kN e36 M_sort (by omega)
  replace M_pace := ax_kN e36 M_pace (by omega)
  replace M_unit := ax_kN e36 M_unit (by omega)
  replace M_newNorth := ax_kN e36 M_newNorth (by omega)
  replace M_newLean := ax_kN e36 M_newLean (by omega)
  replace M_newBend := ax_kN e36 M_newBend (by omega)
  replace M_newSort := ax_kN e36 M_newSort (by omega)
  replace M_newPace := ax_kN e36 M_newPace (by omega)
  replace M_newUnit := ax_kN e36 M_newUnit (by omega)
  replace M_slot := ax_kN e36 M_slot (by omega)
  replace M_text := ax_kN e36 M_text (by omega)
  replace M_sawWho := ax_kN e36 M_sawWho (by omega)
  replace M_sawFrom := ax_kN e36 M_sawFrom (by omega)
  replace M_sawTo := ax_kN e36 M_sawTo (by omega)
  replace G := fun q (hq : q < 56) => (ax_kF (q := q) e36 (by omega)).trans (G q hq)
  clear e36 NEW
  refine ax_aload_n (pc' := 145) rfl dX8_init_144 rfl ?_
  refine ax_callVG (pc' := 148) lv_X8_65 (m_clears M_o ⟨_, _, _, _, _, _, M_newNorth, M_newLean, M_newBend, M_newSort, M_newPace, M_newUnit⟩) M_o rfl rfl (Nat.le_of_ble_eq_true rfl) (Nat.le_of_ble_eq_true rfl) dX8_init_145 rfl (fun r144 s144 hr => ?_) (hk := Nat.le_of_ble_eq_true rfl) (hw := Nat.le_of_ble_eq_true rfl)
  obtain ⟨rfl, M_o, hN, hF⟩ := hr
  have Z := hF.1.trans Z
  have G := fun q (hq : q < 56) => (hF.2 q (by omega) (by omega)).trans (G q hq)
  have M_north := (hF.2 _ (by decide) (by omega)).trans M_north
  have M_lean := (hF.2 _ (by decide) (by omega)).trans M_lean
  have M_bend := (hF.2 _ (by decide) (by omega)).trans M_bend
  have M_sort := (hF.2 _ (by decide) (by omega)).trans M_sort
  have M_pace := (hF.2 _ (by decide) (by omega)).trans M_pace
  have M_unit := (hF.2 _ (by decide) (by omega)).trans M_unit
  have M_slot := (hF.2 _ (by decide) (by omega)).trans M_slot
  have M_text := (hF.2 _ (by decide) (by omega)).trans M_text
  have M_sawWho := (hF.2 _ (by decide) (by omega)).trans M_sawWho
  have M_sawFrom := (hF.2 _ (by decide) (by omega)).trans M_sawFrom
  have M_sawTo := (hF.2 _ (by decide) (by omega)).trans M_sawTo
  have M_sawMany := (hF.2 _ (by decide) (by omega)).trans M_sawMany
  refine ax_aload_n (pc' := 149) rfl dX8_init_148 rfl ?_
  refine ax_bipush (pc' := 151) (v := (nI 24)) kb_24 dX8_init_149 rfl ?_
  refine ax_iconst (pc' := 152) (v := (nI 4)) kc_4 dX8_init_151 rfl ?_
  refine ax_callVG (pc' := 155) lv_X8_68 (m_lies (b := sp_b0) (l := 24) (x := 4) M_o hN (by decide)) M_o rfl rfl (Nat.le_of_ble_eq_true rfl) (Nat.le_of_ble_eq_true rfl) dX8_init_152 rfl (fun r148 s148 hr => ?_) (hk := Nat.le_of_ble_eq_true rfl) (hw := Nat.le_of_ble_eq_true rfl)
  obtain ⟨rfl, M_o, hN, hF⟩ := hr
  have Z := hF.1.trans Z
  have G := fun q (hq : q < 56) => (hF.2 q (by omega) (by omega)).trans (G q hq)
  have M_north := (hF.2 _ (by decide) (by omega)).trans M_north
  have M_lean := (hF.2 _ (by decide) (by omega)).trans M_lean
  have M_bend := (hF.2 _ (by decide) (by omega)).trans M_bend
  have M_sort := (hF.2 _ (by decide) (by omega)).trans M_sort
  have M_pace := (hF.2 _ (by decide) (by omega)).trans M_pace
  have M_unit := (hF.2 _ (by decide) (by omega)).trans M_unit
  have M_slot := (hF.2 _ (by decide) (by omega)).trans M_slot
  have M_text := (hF.2 _ (by decide) (by omega)).trans M_text
  have M_sawWho := (hF.2 _ (by decide) (by omega)).trans M_sawWho
  have M_sawFrom := (hF.2 _ (by decide) (by omega)).trans M_sawFrom
  have M_sawTo := (hF.2 _ (by decide) (by omega)).trans M_sawTo
  have M_sawMany := (hF.2 _ (by decide) (by omega)).trans M_sawMany
  refine ax_aload_n (pc' := 156) rfl dX8_init_155 rfl ?_
  refine ax_bipush (pc' := 158) (v := (nI 31)) kb_31 dX8_init_156 rfl ?_
  refine ax_iconst (pc' := 159) (v := (nI 5)) kc_5 dX8_init_158 rfl ?_
  refine ax_callVG (pc' := 162) lv_X8_68 (m_lies (l := 31) (x := 5) M_o hN (by decide)) M_o rfl rfl (Nat.le_of_ble_eq_true rfl) (Nat.le_of_ble_eq_true rfl) dX8_init_159 rfl (fun r155 s155 hr => ?_) (hk := Nat.le_of_ble_eq_true rfl) (hw := Nat.le_of_ble_eq_true rfl)
  obtain ⟨rfl, M_o, hN, hF⟩ := hr
  have Z := hF.1.trans Z
  have G := fun q (hq : q < 56) => (hF.2 q (by omega) (by omega)).trans (G q hq)
  have M_north := (hF.2 _ (by decide) (by omega)).trans M_north
  have M_lean := (hF.2 _ (by decide) (by omega)).trans M_lean
  have M_bend := (hF.2 _ (by decide) (by omega)).trans M_bend
  have M_sort := (hF.2 _ (by decide) (by omega)).trans M_sort
  have M_pace := (hF.2 _ (by decide) (by omega)).trans M_pace
  have M_unit := (hF.2 _ (by decide) (by omega)).trans M_unit
  have M_slot := (hF.2 _ (by decide) (by omega)).trans M_slot
  have M_text := (hF.2 _ (by decide) (by omega)).trans M_text
  have M_sawWho := (hF.2 _ (by decide) (by omega)).trans M_sawWho
  have M_sawFrom := (hF.2 _ (by decide) (by omega)).trans M_sawFrom
  have M_sawTo := (hF.2 _ (by decide) (by omega)).trans M_sawTo
  have M_sawMany := (hF.2 _ (by decide) (by omega)).trans M_sawMany
  refine ax_aload_n (pc' := 163) rfl dX8_init_162 rfl ?_
  refine ax_bipush (pc' := 165) (v := (nI 38)) kb_38 dX8_init_163 rfl ?_
  refine ax_iconst (pc' := 166) (v := (nI 4)) kc_4 dX8_init_165 rfl ?_
  refine ax_callVG (pc' := 169) lv_X8_68 (m_lies (l := 38) (x := 4) M_o hN (by decide)) M_o rfl rfl (Nat.le_of_ble_eq_true rfl) (Nat.le_of_ble_eq_true rfl) dX8_init_166 rfl (fun r162 s162 hr => ?_) (hk := Nat.le_of_ble_eq_true rfl) (hw := Nat.le_of_ble_eq_true rfl)
  obtain ⟨rfl, M_o, hN, hF⟩ := hr
  have Z := hF.1.trans Z
  have G := fun q (hq : q < 56) => (hF.2 q (by omega) (by omega)).trans (G q hq)
  have M_north := (hF.2 _ (by decide) (by omega)).trans M_north
  have M_lean := (hF.2 _ (by decide) (by omega)).trans M_lean
  have M_bend := (hF.2 _ (by decide) (by omega)).trans M_bend
  have M_sort := (hF.2 _ (by decide) (by omega)).trans M_sort
  have M_pace := (hF.2 _ (by decide) (by omega)).trans M_pace
  have M_unit := (hF.2 _ (by decide) (by omega)).trans M_unit
  have M_slot := (hF.2 _ (by decide) (by omega)).trans M_slot
  have M_text := (hF.2 _ (by decide) (by omega)).trans M_text
  have M_sawWho := (hF.2 _ (by decide) (by omega)).trans M_sawWho
  have M_sawFrom := (hF.2 _ (by decide) (by omega)).trans M_sawFrom
  have M_sawTo := (hF.2 _ (by decide) (by omega)).trans M_sawTo
  have M_sawMany := (hF.2 _ (by decide) (by omega)).trans M_sawMany
  refine ax_aload_n (pc' := 170) rfl dX8_init_169 rfl ?_
  refine ax_bipush (pc' := 172) (v := (nI 60)) kb_60 dX8_init_170 rfl ?_
  refine ax_iconst (pc' := 173) (v := (nI 2)) kc_2 dX8_init_172 rfl ?_
  refine ax_callVG (pc' := 176) lv_X8_68 (m_lies (l := 60) (x := 2) M_o hN (by decide)) M_o rfl rfl (Nat.le_of_ble_eq_true rfl) (Nat.le_of_ble_eq_true rfl) dX8_init_173 rfl (fun r169 s169 hr => ?_) (hk := Nat.le_of_ble_eq_true rfl) (hw := Nat.le_of_ble_eq_true rfl)
  obtain ⟨rfl, M_o, hN, hF⟩ := hr
  have Z := hF.1.trans Z
  have G := fun q (hq : q < 56) => (hF.2 q (by omega) (by omega)).trans (G q hq)
  have M_north := (hF.2 _ (by decide) (by omega)).trans M_north
  have M_lean := (hF.2 _ (by decide) (by omega)).trans M_lean
  have M_bend := (hF.2 _ (by decide) (by omega)).trans M_bend
  have M_sort := (hF.2 _ (by decide) (by omega)).trans M_sort
  have M_pace := (hF.2 _ (by decide) (by omega)).trans M_pace
  have M_unit := (hF.2 _ (by decide) (by omega)).trans M_unit
  have M_slot := (hF.2 _ (by decide) (by omega)).trans M_slot
  have M_text := (hF.2 _ (by decide) (by omega)).trans M_text
  have M_sawWho := (hF.2 _ (by decide) (by omega)).trans M_sawWho
  have M_sawFrom := (hF.2 _ (by decide) (by omega)).trans M_sawFrom
  have M_sawTo := (hF.2 _ (by decide) (by omega)).trans M_sawTo
  have M_sawMany := (hF.2 _ (by decide) (by omega)).trans M_sawMany
  refine ax_aload_n (pc' := 177) rfl dX8_init_176 rfl ?_
  refine ax_iconst (pc' := 178) (v := (nI 0)) kc_0 dX8_init_177 rfl ?_
  refine ax_iconst (pc' := 179) (v := (nI 1)) kc_1 dX8_init_178 rfl ?_
  refine ax_bipush (pc' := 181) (v := (nI 6)) kb_6 dX8_init_179 rfl ?_
  refine ax_callVG (pc' := 184) lv_X8_72 (m_bends (a := 0) (c := 1) (r := 6) M_o hN (by decide) (by decide)) M_o rfl rfl (Nat.le_of_ble_eq_true rfl) (Nat.le_of_ble_eq_true rfl) dX8_init_181 rfl (fun r176 s176 hr => ?_) (hk := Nat.le_of_ble_eq_true rfl) (hw := Nat.le_of_ble_eq_true rfl)
  obtain ⟨rfl, M_o, hN, hF⟩ := hr
  have Z := hF.1.trans Z
  have G := fun q (hq : q < 56) => (hF.2 q (by omega) (by omega)).trans (G q hq)
  have M_north := (hF.2 _ (by decide) (by omega)).trans M_north
  have M_lean := (hF.2 _ (by decide) (by omega)).trans M_lean
  have M_bend := (hF.2 _ (by decide) (by omega)).trans M_bend
  have M_sort := (hF.2 _ (by decide) (by omega)).trans M_sort
  have M_pace := (hF.2 _ (by decide) (by omega)).trans M_pace
  have M_unit := (hF.2 _ (by decide) (by omega)).trans M_unit
  have M_slot := (hF.2 _ (by decide) (by omega)).trans M_slot
  have M_text := (hF.2 _ (by decide) (by omega)).trans M_text
  have M_sawWho := (hF.2 _ (by decide) (by omega)).trans M_sawWho
  have M_sawFrom := (hF.2 _ (by decide) (by omega)).trans M_sawFrom
  have M_sawTo := (hF.2 _ (by decide) (by omega)).trans M_sawTo
  have M_sawMany := (hF.2 _ (by decide) (by omega)).trans M_sawMany
  refine ax_aload_n (pc' := 185) rfl dX8_init_184 rfl ?_
  refine ax_iconst (pc' := 186) (v := (nI 1)) kc_1 dX8_init_185 rfl ?_
  refine ax_iconst (pc' := 187) (v := (nI 2)) kc_2 dX8_init_186 rfl ?_
  refine ax_bipush (pc' := 189) (v := (nI 15)) kb_15 dX8_init_187 rfl ?_
  refine ax_callVG (pc' := 192) lv_X8_72 (m_bends (a := 1) (c := 2) (r := 15) M_o hN (by decide) (by decide)) M_o rfl rfl (Nat.le_of_ble_eq_true rfl) (Nat.le_of_ble_eq_true rfl) dX8_init_189 rfl (fun r184 s184 hr => ?_) (hk := Nat.le_of_ble_eq_true rfl) (hw := Nat.le_of_ble_eq_true rfl)
  obtain ⟨rfl, M_o, hN, hF⟩ := hr
  have Z := hF.1.trans Z
  have G := fun q (hq : q < 56) => (hF.2 q (by omega) (by omega)).trans (G q hq)
  have M_north := (hF.2 _ (by decide) (by omega)).trans M_north
  have M_lean := (hF.2 _ (by decide) (by omega)).trans M_lean
  have M_bend := (hF.2 _ (by decide) (by omega)).trans M_bend
  have M_sort := (hF.2 _ (by decide) (by omega)).trans M_sort
  have M_pace := (hF.2 _ (by decide) (by omega)).trans M_pace
  have M_unit := (hF.2 _ (by decide) (by omega)).trans M_unit
  have M_slot := (hF.2 _ (by decide) (by omega)).trans M_slot
  have M_text := (hF.2 _ (by decide) (by omega)).trans M_text
  have M_sawWho := (hF.2 _ (by decide) (by omega)).trans M_sawWho
  have M_sawFrom := (hF.2 _ (by decide) (by omega)).trans M_sawFrom
  have M_sawTo := (hF.2 _ (by decide) (by omega)).trans M_sawTo
  have M_sawMany := (hF.2 _ (by decide) (by omega)).trans M_sawMany
  refine ax_aload_n (pc' := 193) rfl dX8_init_192 rfl ?_
  refine ax_iconst (pc' := 194) (v := (nI 0)) kc_0 dX8_init_193 rfl ?_
  refine ax_iconst (pc' := 195) (v := (nI 2)) kc_2 dX8_init_194 rfl ?_
  refine ax_bipush (pc' := 197) (v := (nI 10)) kb_10 dX8_init_195 rfl ?_
  refine ax_callVG (pc' := 200) lv_X8_72 (m_bends (a := 0) (c := 2) (r := 10) M_o hN (by decide) (by decide)) M_o rfl rfl (Nat.le_of_ble_eq_true rfl) (Nat.le_of_ble_eq_true rfl) dX8_init_197 rfl (fun r192 s192 hr => ?_) (hk := Nat.le_of_ble_eq_true rfl) (hw := Nat.le_of_ble_eq_true rfl)
  obtain ⟨rfl, M_o, hN, hF⟩ := hr
  have Z := hF.1.trans Z
  have G := fun q (hq : q < 56) => (hF.2 q (by omega) (by omega)).trans (G q hq)
  have M_north := (hF.2 _ (by decide) (by omega)).trans M_north
  have M_lean := (hF.2 _ (by decide) (by omega)).trans M_lean
  have M_bend := (hF.2 _ (by decide) (by omega)).trans M_bend
  have M_sort := (hF.2 _ (by decide) (by omega)).trans M_sort
  have M_pace := (hF.2 _ (by decide) (by omega)).trans M_pace
  have M_unit := (hF.2 _ (by decide) (by omega)).trans M_unit
  have M_slot := (hF.2 _ (by decide) (by omega)).trans M_slot
  have M_text := (hF.2 _ (by decide) (by omega)).trans M_text
  have M_sawWho := (hF.2 _ (by decide) (by omega)).trans M_sawWho
  have M_sawFrom := (hF.2 _ (by decide) (by omega)).trans M_sawFrom
  have M_sawTo := (hF.2 _ (by decide) (by omega)).trans M_sawTo
  have M_sawMany := (hF.2 _ (by decide) (by omega)).trans M_sawMany
  refine ax_aload_n (pc' := 201) rfl dX8_init_200 rfl ?_
  refine ax_iconst (pc' := 202) (v := (nI 2)) kc_2 dX8_init_201 rfl ?_
  refine ax_iconst (pc' := 203) (v := (nI 3)) kc_3 dX8_init_202 rfl ?_
  refine ax_bipush (pc' := 205) (v := (nI 30)) kb_30 dX8_init_203 rfl ?_
  refine ax_callVG (pc' := 208) lv_X8_72 (m_bends (a := 2) (c := 3) (r := 30) M_o hN (by decide) (by decide)) M_o rfl rfl (Nat.le_of_ble_eq_true rfl) (Nat.le_of_ble_eq_true rfl) dX8_init_205 rfl (fun r200 s200 hr => ?_) (hk := Nat.le_of_ble_eq_true rfl) (hw := Nat.le_of_ble_eq_true rfl)
  obtain ⟨rfl, M_o, hN, hF⟩ := hr
  have Z := hF.1.trans Z
  have G := fun q (hq : q < 56) => (hF.2 q (by omega) (by omega)).trans (G q hq)
  have M_north := (hF.2 _ (by decide) (by omega)).trans M_north
  have M_lean := (hF.2 _ (by decide) (by omega)).trans M_lean
  have M_bend := (hF.2 _ (by decide) (by omega)).trans M_bend
  have M_sort := (hF.2 _ (by decide) (by omega)).trans M_sort
  have M_pace := (hF.2 _ (by decide) (by omega)).trans M_pace
  have M_unit := (hF.2 _ (by decide) (by omega)).trans M_unit
  have M_slot := (hF.2 _ (by decide) (by omega)).trans M_slot
  have M_text := (hF.2 _ (by decide) (by omega)).trans M_text
  have M_sawWho := (hF.2 _ (by decide) (by omega)).trans M_sawWho
  have M_sawFrom := (hF.2 _ (by decide) (by omega)).trans M_sawFrom
  have M_sawTo := (hF.2 _ (by decide) (by omega)).trans M_sawTo
  have M_sawMany := (hF.2 _ (by decide) (by omega)).trans M_sawMany
  refine ax_aload_n (pc' := 209) rfl dX8_init_208 rfl ?_
  refine ax_iconst (pc' := 210) (v := (nI 0)) kc_0 dX8_init_209 rfl ?_
  refine ax_bipush (pc' := 212) (v := (nI 20)) kb_20 dX8_init_210 rfl ?_
  refine ax_bipush (pc' := 214) (v := (nI 9)) kb_9 dX8_init_212 rfl ?_
  refine ax_callVG (pc' := 217) lv_X8_76 (m_goes (kd := 0) (pa := 20) (u := 9) M_o hN (by decide)) M_o rfl rfl (Nat.le_of_ble_eq_true rfl) (Nat.le_of_ble_eq_true rfl) dX8_init_214 rfl (fun r208 s208 hr => ?_) (hk := Nat.le_of_ble_eq_true rfl) (hw := Nat.le_of_ble_eq_true rfl)
  obtain ⟨rfl, M_o, hN, hF⟩ := hr
  have Z := hF.1.trans Z
  have G := fun q (hq : q < 56) => (hF.2 q (by omega) (by omega)).trans (G q hq)
  have M_north := (hF.2 _ (by decide) (by omega)).trans M_north
  have M_lean := (hF.2 _ (by decide) (by omega)).trans M_lean
  have M_bend := (hF.2 _ (by decide) (by omega)).trans M_bend
  have M_sort := (hF.2 _ (by decide) (by omega)).trans M_sort
  have M_pace := (hF.2 _ (by decide) (by omega)).trans M_pace
  have M_unit := (hF.2 _ (by decide) (by omega)).trans M_unit
  have M_slot := (hF.2 _ (by decide) (by omega)).trans M_slot
  have M_text := (hF.2 _ (by decide) (by omega)).trans M_text
  have M_sawWho := (hF.2 _ (by decide) (by omega)).trans M_sawWho
  have M_sawFrom := (hF.2 _ (by decide) (by omega)).trans M_sawFrom
  have M_sawTo := (hF.2 _ (by decide) (by omega)).trans M_sawTo
  have M_sawMany := (hF.2 _ (by decide) (by omega)).trans M_sawMany
  refine ax_aload_n (pc' := 218) rfl dX8_init_217 rfl ?_
  refine ax_iconst (pc' := 219) (v := (nI 1)) kc_1 dX8_init_218 rfl ?_
  refine ax_bipush (pc' := 221) (v := (nI 25)) kb_25 dX8_init_219 rfl ?_
  refine ax_bipush (pc' := 223) (v := (nI 8)) kb_8 dX8_init_221 rfl ?_
  refine ax_callVG (pc' := 226) lv_X8_76 (m_goes (kd := 1) (pa := 25) (u := 8) M_o hN (by decide)) M_o rfl rfl (Nat.le_of_ble_eq_true rfl) (Nat.le_of_ble_eq_true rfl) dX8_init_223 rfl (fun r217 s217 hr => ?_) (hk := Nat.le_of_ble_eq_true rfl) (hw := Nat.le_of_ble_eq_true rfl)
  obtain ⟨rfl, M_o, hN, hF⟩ := hr
  have Z := hF.1.trans Z
  have G := fun q (hq : q < 56) => (hF.2 q (by omega) (by omega)).trans (G q hq)
  have M_north := (hF.2 _ (by decide) (by omega)).trans M_north
  have M_lean := (hF.2 _ (by decide) (by omega)).trans M_lean
  have M_bend := (hF.2 _ (by decide) (by omega)).trans M_bend
  have M_sort := (hF.2 _ (by decide) (by omega)).trans M_sort
  have M_pace := (hF.2 _ (by decide) (by omega)).trans M_pace
  have M_unit := (hF.2 _ (by decide) (by omega)).trans M_unit
  have M_slot := (hF.2 _ (by decide) (by omega)).trans M_slot
  have M_text := (hF.2 _ (by decide) (by omega)).trans M_text
  have M_sawWho := (hF.2 _ (by decide) (by omega)).trans M_sawWho
  have M_sawFrom := (hF.2 _ (by decide) (by omega)).trans M_sawFrom
  have M_sawTo := (hF.2 _ (by decide) (by omega)).trans M_sawTo
  have M_sawMany := (hF.2 _ (by decide) (by omega)).trans M_sawMany
  refine ax_aload_n (pc' := 227) rfl dX8_init_226 rfl ?_
  refine ax_iconst (pc' := 228) (v := (nI 2)) kc_2 dX8_init_227 rfl ?_
  refine ax_bipush (pc' := 230) (v := (nI 15)) kb_15 dX8_init_228 rfl ?_
  refine ax_bipush (pc' := 232) (v := (nI 9)) kb_9 dX8_init_230 rfl ?_
  refine ax_callVG (pc' := 235) lv_X8_76 (m_goes (kd := 2) (pa := 15) (u := 9) M_o hN (by decide)) M_o rfl rfl (Nat.le_of_ble_eq_true rfl) (Nat.le_of_ble_eq_true rfl) dX8_init_232 rfl (fun r226 s226 hr => ?_) (hk := Nat.le_of_ble_eq_true rfl) (hw := Nat.le_of_ble_eq_true rfl)
  obtain ⟨rfl, M_o, hN, hF⟩ := hr
  have Z := hF.1.trans Z
  have G := fun q (hq : q < 56) => (hF.2 q (by omega) (by omega)).trans (G q hq)
  have M_north := (hF.2 _ (by decide) (by omega)).trans M_north
  have M_lean := (hF.2 _ (by decide) (by omega)).trans M_lean
  have M_bend := (hF.2 _ (by decide) (by omega)).trans M_bend
  have M_sort := (hF.2 _ (by decide) (by omega)).trans M_sort
  have M_pace := (hF.2 _ (by decide) (by omega)).trans M_pace
  have M_unit := (hF.2 _ (by decide) (by omega)).trans M_unit
  have M_slot := (hF.2 _ (by decide) (by omega)).trans M_slot
  have M_text := (hF.2 _ (by decide) (by omega)).trans M_text
  have M_sawWho := (hF.2 _ (by decide) (by omega)).trans M_sawWho
  have M_sawFrom := (hF.2 _ (by decide) (by omega)).trans M_sawFrom
  have M_sawTo := (hF.2 _ (by decide) (by omega)).trans M_sawTo
  have M_sawMany := (hF.2 _ (by decide) (by omega)).trans M_sawMany
  refine ax_aload_n (pc' := 236) rfl dX8_init_235 rfl ?_
  refine ax_iconst (pc' := 237) (v := (nI 3)) kc_3 dX8_init_236 rfl ?_
  refine ax_bipush (pc' := 239) (v := (nI 30)) kb_30 dX8_init_237 rfl ?_
  refine ax_iconst (pc' := 240) (v := (nI 5)) kc_5 dX8_init_239 rfl ?_
  refine ax_callVG (pc' := 243) lv_X8_76 (m_goes (kd := 3) (pa := 30) (u := 5) M_o hN (by decide)) M_o rfl rfl (Nat.le_of_ble_eq_true rfl) (Nat.le_of_ble_eq_true rfl) dX8_init_240 rfl (fun r235 s235 hr => ?_) (hk := Nat.le_of_ble_eq_true rfl) (hw := Nat.le_of_ble_eq_true rfl)
  obtain ⟨rfl, M_o, hN, hF⟩ := hr
  have Z := hF.1.trans Z
  have G := fun q (hq : q < 56) => (hF.2 q (by omega) (by omega)).trans (G q hq)
  have M_north := (hF.2 _ (by decide) (by omega)).trans M_north
  have M_lean := (hF.2 _ (by decide) (by omega)).trans M_lean
  have M_bend := (hF.2 _ (by decide) (by omega)).trans M_bend
  have M_sort := (hF.2 _ (by decide) (by omega)).trans M_sort
  have M_pace := (hF.2 _ (by decide) (by omega)).trans M_pace
  have M_unit := (hF.2 _ (by decide) (by omega)).trans M_unit
  have M_slot := (hF.2 _ (by decide) (by omega)).trans M_slot
  have M_text := (hF.2 _ (by decide) (by omega)).trans M_text
  have M_sawWho := (hF.2 _ (by decide) (by omega)).trans M_sawWho
  have M_sawFrom := (hF.2 _ (by decide) (by omega)).trans M_sawFrom
  have M_sawTo := (hF.2 _ (by decide) (by omega)).trans M_sawTo
  have M_sawMany := (hF.2 _ (by decide) (by omega)).trans M_sawMany
  refine ax_aload_n (pc' := 244) rfl dX8_init_243 rfl ?_
  refine ax_callVG (pc' := 247) lv_X8_79 (m_settles (b := sp_B1) (gg := 36) M_o ⟨_, _, _, _, _, _, M_north, M_lean, M_bend, M_sort, M_pace, M_unit⟩ hN (by decide) (by decide)) M_o rfl rfl (Nat.le_of_ble_eq_true rfl) (Nat.le_of_ble_eq_true rfl) dX8_init_244 rfl (fun rr ss hrr => ?_) (hk := Nat.le_of_ble_eq_true rfl) (hw := Nat.le_of_ble_eq_true rfl)
  obtain ⟨rfl, M_o, hB, hF⟩ := hrr
  have Z := hF.1.trans Z
  have G := fun q (hq : q < 56) => (hF.2 q (by omega)).trans (G q hq)
  have hN := hN.any.on (h' := ss.1) (fun q _ _ => hF.2 q (by omega))
  have M_slot := hF.at M_slot (by omega)
  have M_text := hF.at M_text (by omega)
  have M_sawWho := hF.at M_sawWho (by omega)
  have M_sawFrom := hF.at M_sawFrom (by omega)
  have M_sawTo := hF.at M_sawTo (by omega)
  have M_sawMany := hF.at M_sawMany (by omega)
  exact ax_vret dX8_init_247 rfl (Nat.le_of_ble_eq_true rfl) (Nat.le_of_ble_eq_true rfl) (⟨rfl, fun tx => ⟨_, _, _, _, _, _, _, M_o, hB, M_slot, ⟨⟨rfl, rfl, fun i hi => absurd hi (Nat.not_lt_zero _)⟩, fun i u h => (by cases h), fun i u h => (by cases h)⟩, hN, ⟨_, M_text, fun i hi => absurd hi (Nat.not_lt_zero _)⟩, ⟨_, _, _, _, M_sawWho, M_sawFrom, M_sawTo, M_sawMany, fun i hi => absurd hi (Nat.not_lt_zero _)⟩⟩, Z, G⟩)
end NM
