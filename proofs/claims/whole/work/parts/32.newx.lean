/-! ===== a new GirthReports ===== -/
section NX
variable {σ : ax_S} {a1 a2 a3 a4 a5 a6 a7 a8 a9 a10 a11 a12 : Value}
theorem n_Class (X_o : σ.1 0 = some (.inr (7, [a1, a2, a3, a4, a5, a6, a7, a8, a9, a10, a11, a12]))) (Z : σ.2 = 1) : ax_N mX7_init 8 55 692 [.ref 0] σ (nw_Po 0 56 σ (fun h => xs_At h (sp_S0 tx_1))) := by
  refine ax_N.of (ls := [some (.ref 0), none]) (by decide +kernel) rfl (Nat.le_of_ble_eq_true rfl) ?_
  refine ax_aload_n (pc' := 1) rfl dX7_init_0 rfl ?_
  refine ax_objInit (pc' := 4) lo_X7_3 lo_inst lo_code (Nat.le_of_ble_eq_true rfl) (Nat.le_of_ble_eq_true rfl) dX7_init_1 rfl ?_
  refine ax_aload_n (pc' := 5) rfl dX7_init_4 rfl ?_
  refine ax_newU (pc' := 8) (ci := 3) (fs := [.null, .int 0]) Z rfl tyX3_ok cl_X7_9 ci_X3 mi_X3 (fun x => (by decide : ∀ j, j < 2 → defaultValue (tyX3 j) = vp_V [.null, .int 0] j)) (Nat.le_of_ble_eq_true rfl) (Nat.le_of_ble_eq_true rfl) dX7_init_5 rfl (fun t1 e1 => ?_)
  have O := ax_kS e1
  replace Z := ax_k2 e1
  refine ax_dup (pc' := 9) rfl dX7_init_8 rfl ?_
  refine ax_callI (pc' := 12) li_X7_11 (n_Paper O Z) rfl rfl (Nat.le_of_ble_eq_true rfl) (Nat.le_of_ble_eq_true rfl) (Nat.le_of_ble_eq_true rfl) (Nat.le_of_ble_eq_true rfl) dX7_init_9 rfl (fun r1 u1 h1 => ?_)
  obtain ⟨rfl, hPaper, Z, G1⟩ := h1
  replace X_o := (G1 0 (by decide)).trans (ax_kN e1 X_o (by decide))
  refine ax_putFU (pc' := 15) ff_X7_12 rfl X_o rfl (fun _ => ⟨rfl, rfl⟩) dX7_init_12 rfl (fun v1 f1 => ?_)
  replace X_o := ax_kS f1
  replace Z := (ax_k2 f1).trans Z
  have K1 : ∀ q, 1 ≤ q → q < 1 → v1.1 q = σ.1 q := fun q a b => (ax_kF f1 (by omega)).trans ((G1 q b).trans (ax_kF e1 (by omega)))
  replace hPaper := hPaper tx_1
  replace hPaper := hPaper.on (τ := v1) (fun q _ _ => ax_kF f1 (by omega))
  clear e1 f1 O G1 K1
  refine ax_aload_n (pc' := 16) rfl dX7_init_15 rfl ?_
  refine ax_newU (pc' := 19) (ci := 4) (fs := [.null, .int 0]) Z rfl tyX4_ok cl_X7_16 ci_X4 mi_X4 (fun x => (by decide : ∀ j, j < 2 → defaultValue (tyX4 j) = vp_V [.null, .int 0] j)) (Nat.le_of_ble_eq_true rfl) (Nat.le_of_ble_eq_true rfl) dX7_init_16 rfl (fun t2 e2 => ?_)
  have O := ax_kS e2
  replace Z := ax_k2 e2
  refine ax_dup (pc' := 20) rfl dX7_init_19 rfl ?_
  refine ax_callI (pc' := 23) li_X7_18 (n_Reader O Z) rfl rfl (Nat.le_of_ble_eq_true rfl) (Nat.le_of_ble_eq_true rfl) (Nat.le_of_ble_eq_true rfl) (Nat.le_of_ble_eq_true rfl) dX7_init_20 rfl (fun r2 u2 h2 => ?_)
  obtain ⟨rfl, hReader, Z, G2⟩ := h2
  replace X_o := (G2 0 (by decide)).trans (ax_kN e2 X_o (by decide))
  refine ax_putFU (pc' := 26) ff_X7_19 rfl X_o rfl (fun _ => ⟨rfl, rfl⟩) dX7_init_23 rfl (fun v2 f2 => ?_)
  replace X_o := ax_kS f2
  replace Z := (ax_k2 f2).trans Z
  have K2 : ∀ q, 1 ≤ q → q < 3 → v2.1 q = v1.1 q := fun q a b => (ax_kF f2 (by omega)).trans ((G2 q b).trans (ax_kF e2 (by omega)))
  replace hPaper := hPaper.on (τ := v2) (fun q _ _ => K2 q (by omega) (by omega))
  replace hReader := hReader.on (τ := v2) (fun q _ _ => ax_kF f2 (by omega))
  clear e2 f2 O G2 K2
  refine ax_aload_n (pc' := 27) rfl dX7_init_26 rfl ?_
  refine ax_newU (pc' := 30) (ci := 1) (fs := [.null, .null, .null, .null, .int 0, .int 0]) Z rfl tyX1_ok cl_X7_23 ci_X1 mi_X1 (fun x => (by decide : ∀ j, j < 6 → defaultValue (tyX1 j) = vp_V [.null, .null, .null, .null, .int 0, .int 0] j)) (Nat.le_of_ble_eq_true rfl) (Nat.le_of_ble_eq_true rfl) dX7_init_27 rfl (fun t3 e3 => ?_)
  have O := ax_kS e3
  replace Z := ax_k2 e3
  refine ax_dup (pc' := 31) rfl dX7_init_30 rfl ?_
  refine ax_callI (pc' := 34) li_X7_25 (n_Book O Z) rfl rfl (Nat.le_of_ble_eq_true rfl) (Nat.le_of_ble_eq_true rfl) (Nat.le_of_ble_eq_true rfl) (Nat.le_of_ble_eq_true rfl) dX7_init_31 rfl (fun r3 u3 h3 => ?_)
  obtain ⟨rfl, hBook, Z, G3⟩ := h3
  replace X_o := (G3 0 (by decide)).trans (ax_kN e3 X_o (by decide))
  refine ax_putFU (pc' := 37) ff_X7_26 rfl X_o rfl (fun _ => ⟨rfl, rfl⟩) dX7_init_34 rfl (fun v3 f3 => ?_)
  replace X_o := ax_kS f3
  replace Z := (ax_k2 f3).trans Z
  have K3 : ∀ q, 1 ≤ q → q < 5 → v3.1 q = v2.1 q := fun q a b => (ax_kF f3 (by omega)).trans ((G3 q b).trans (ax_kF e3 (by omega)))
  replace hPaper := hPaper.on (τ := v3) (fun q _ _ => K3 q (by omega) (by omega))
  replace hReader := hReader.on (τ := v3) (fun q _ _ => K3 q (by omega) (by omega))
  replace hBook := hBook.on (τ := v3) (fun q _ _ => ax_kF f3 (by omega))
  clear e3 f3 O G3 K3
  refine ax_aload_n (pc' := 38) rfl dX7_init_37 rfl ?_
  refine ax_newU (pc' := 41) (ci := 1) (fs := [.null, .null, .null, .null, .int 0, .int 0]) Z rfl tyX1_ok cl_X7_23 ci_X1 mi_X1 (fun x => (by decide : ∀ j, j < 6 → defaultValue (tyX1 j) = vp_V [.null, .null, .null, .null, .int 0, .int 0] j)) (Nat.le_of_ble_eq_true rfl) (Nat.le_of_ble_eq_true rfl) dX7_init_38 rfl (fun t4 e4 => ?_)
  have O := ax_kS e4
  replace Z := ax_k2 e4
  refine ax_dup (pc' := 42) rfl dX7_init_41 rfl ?_
  refine ax_callI (pc' := 45) li_X7_25 (n_Book O Z) rfl rfl (Nat.le_of_ble_eq_true rfl) (Nat.le_of_ble_eq_true rfl) (Nat.le_of_ble_eq_true rfl) (Nat.le_of_ble_eq_true rfl) dX7_init_42 rfl (fun r4 u4 h4 => ?_)
  obtain ⟨rfl, hYear, Z, G4⟩ := h4
  replace X_o := (G4 0 (by decide)).trans (ax_kN e4 X_o (by decide))
  refine ax_putFU (pc' := 48) ff_X7_30 rfl X_o rfl (fun _ => ⟨rfl, rfl⟩) dX7_init_45 rfl (fun v4 f4 => ?_)
  replace X_o := ax_kS f4
  replace Z := (ax_k2 f4).trans Z
  have K4 : ∀ q, 1 ≤ q → q < 10 → v4.1 q = v3.1 q := fun q a b => (ax_kF f4 (by omega)).trans ((G4 q b).trans (ax_kF e4 (by omega)))
  replace hPaper := hPaper.on (τ := v4) (fun q _ _ => K4 q (by omega) (by omega))
  replace hReader := hReader.on (τ := v4) (fun q _ _ => K4 q (by omega) (by omega))
  replace hBook := hBook.on (τ := v4) (fun q _ _ => K4 q (by omega) (by omega))
  replace hYear := hYear.on (τ := v4) (fun q _ _ => ax_kF f4 (by omega))
  clear e4 f4 O G4 K4
  refine ax_aload_n (pc' := 49) rfl dX7_init_48 rfl ?_
  refine ax_newU (pc' := 52) (ci := 1) (fs := [.null, .null, .null, .null, .int 0, .int 0]) Z rfl tyX1_ok cl_X7_23 ci_X1 mi_X1 (fun x => (by decide : ∀ j, j < 6 → defaultValue (tyX1 j) = vp_V [.null, .null, .null, .null, .int 0, .int 0] j)) (Nat.le_of_ble_eq_true rfl) (Nat.le_of_ble_eq_true rfl) dX7_init_49 rfl (fun t5 e5 => ?_)
  have O := ax_kS e5
  replace Z := ax_k2 e5
  refine ax_dup (pc' := 53) rfl dX7_init_52 rfl ?_
  refine ax_callI (pc' := 56) li_X7_25 (n_Book O Z) rfl rfl (Nat.le_of_ble_eq_true rfl) (Nat.le_of_ble_eq_true rfl) (Nat.le_of_ble_eq_true rfl) (Nat.le_of_ble_eq_true rfl) dX7_init_53 rfl (fun r5 u5 h5 => ?_)
  obtain ⟨rfl, hKf, Z, G5⟩ := h5
  replace X_o := (G5 0 (by decide)).trans (ax_kN e5 X_o (by decide))
  refine ax_putFU (pc' := 59) ff_X7_33 rfl X_o rfl (fun _ => ⟨rfl, rfl⟩) dX7_init_56 rfl (fun v5 f5 => ?_)
  replace X_o := ax_kS f5
  replace Z := (ax_k2 f5).trans Z
  have K5 : ∀ q, 1 ≤ q → q < 15 → v5.1 q = v4.1 q := fun q a b => (ax_kF f5 (by omega)).trans ((G5 q b).trans (ax_kF e5 (by omega)))
  replace hPaper := hPaper.on (τ := v5) (fun q _ _ => K5 q (by omega) (by omega))
  replace hReader := hReader.on (τ := v5) (fun q _ _ => K5 q (by omega) (by omega))
  replace hBook := hBook.on (τ := v5) (fun q _ _ => K5 q (by omega) (by omega))
  replace hYear := hYear.on (τ := v5) (fun q _ _ => K5 q (by omega) (by omega))
  replace hKf := hKf.on (τ := v5) (fun q _ _ => ax_kF f5 (by omega))
  clear e5 f5 O G5 K5
  refine ax_aload_n (pc' := 60) rfl dX7_init_59 rfl ?_
  refine ax_newU (pc' := 63) (ci := 1) (fs := [.null, .null, .null, .null, .int 0, .int 0]) Z rfl tyX1_ok cl_X7_23 ci_X1 mi_X1 (fun x => (by decide : ∀ j, j < 6 → defaultValue (tyX1 j) = vp_V [.null, .null, .null, .null, .int 0, .int 0] j)) (Nat.le_of_ble_eq_true rfl) (Nat.le_of_ble_eq_true rfl) dX7_init_60 rfl (fun t6 e6 => ?_)
  have O := ax_kS e6
  replace Z := ax_k2 e6
  refine ax_dup (pc' := 64) rfl dX7_init_63 rfl ?_
  refine ax_callI (pc' := 67) li_X7_25 (n_Book O Z) rfl rfl (Nat.le_of_ble_eq_true rfl) (Nat.le_of_ble_eq_true rfl) (Nat.le_of_ble_eq_true rfl) (Nat.le_of_ble_eq_true rfl) dX7_init_64 rfl (fun r6 u6 h6 => ?_)
  obtain ⟨rfl, hKs, Z, G6⟩ := h6
  replace X_o := (G6 0 (by decide)).trans (ax_kN e6 X_o (by decide))
  refine ax_putFU (pc' := 70) ff_X7_36 rfl X_o rfl (fun _ => ⟨rfl, rfl⟩) dX7_init_67 rfl (fun v6 f6 => ?_)
  replace X_o := ax_kS f6
  replace Z := (ax_k2 f6).trans Z
  have K6 : ∀ q, 1 ≤ q → q < 20 → v6.1 q = v5.1 q := fun q a b => (ax_kF f6 (by omega)).trans ((G6 q b).trans (ax_kF e6 (by omega)))
  replace hPaper := hPaper.on (τ := v6) (fun q _ _ => K6 q (by omega) (by omega))
  replace hReader := hReader.on (τ := v6) (fun q _ _ => K6 q (by omega) (by omega))
  replace hBook := hBook.on (τ := v6) (fun q _ _ => K6 q (by omega) (by omega))
  replace hYear := hYear.on (τ := v6) (fun q _ _ => K6 q (by omega) (by omega))
  replace hKf := hKf.on (τ := v6) (fun q _ _ => K6 q (by omega) (by omega))
  replace hKs := hKs.on (τ := v6) (fun q _ _ => ax_kF f6 (by omega))
  clear e6 f6 O G6 K6
  refine ax_aload_n (pc' := 71) rfl dX7_init_70 rfl ?_
  refine ax_newU (pc' := 74) (ci := 6) (fs := [.null, .null, .null, .null, .null, .null, .int 0]) Z rfl tyX6_ok cl_X7_39 ci_X6 mi_X6 (fun x => (by decide : ∀ j, j < 7 → defaultValue (tyX6 j) = vp_V [.null, .null, .null, .null, .null, .null, .int 0] j)) (Nat.le_of_ble_eq_true rfl) (Nat.le_of_ble_eq_true rfl) dX7_init_71 rfl (fun t7 e7 => ?_)
  have O := ax_kS e7
  replace Z := ax_k2 e7
  refine ax_dup (pc' := 75) rfl dX7_init_74 rfl ?_
  refine ax_callI (pc' := 78) li_X7_41 (n_Trail O Z) rfl rfl (Nat.le_of_ble_eq_true rfl) (Nat.le_of_ble_eq_true rfl) (Nat.le_of_ble_eq_true rfl) (Nat.le_of_ble_eq_true rfl) dX7_init_75 rfl (fun r7 u7 h7 => ?_)
  obtain ⟨rfl, hTrail, Z, G7⟩ := h7
  replace X_o := (G7 0 (by decide)).trans (ax_kN e7 X_o (by decide))
  refine ax_putFU (pc' := 81) ff_X7_42 rfl X_o rfl (fun _ => ⟨rfl, rfl⟩) dX7_init_78 rfl (fun v7 f7 => ?_)
  replace X_o := ax_kS f7
  replace Z := (ax_k2 f7).trans Z
  have K7 : ∀ q, 1 ≤ q → q < 25 → v7.1 q = v6.1 q := fun q a b => (ax_kF f7 (by omega)).trans ((G7 q b).trans (ax_kF e7 (by omega)))
  replace hPaper := hPaper.on (τ := v7) (fun q _ _ => K7 q (by omega) (by omega))
  replace hReader := hReader.on (τ := v7) (fun q _ _ => K7 q (by omega) (by omega))
  replace hBook := hBook.on (τ := v7) (fun q _ _ => K7 q (by omega) (by omega))
  replace hYear := hYear.on (τ := v7) (fun q _ _ => K7 q (by omega) (by omega))
  replace hKf := hKf.on (τ := v7) (fun q _ _ => K7 q (by omega) (by omega))
  replace hKs := hKs.on (τ := v7) (fun q _ _ => K7 q (by omega) (by omega))
  replace hTrail := hTrail.on (τ := v7) (fun q _ _ => ax_kF f7 (by omega))
  clear e7 f7 O G7 K7
  refine ax_aload_n (pc' := 82) rfl dX7_init_81 rfl ?_
  refine ax_newU (pc' := 85) (ci := 5) (fs := [.null, .null, .null, .null, .int 0]) Z rfl tyX5_ok cl_X7_46 ci_X5 mi_X5 (fun x => (by decide : ∀ j, j < 5 → defaultValue (tyX5 j) = vp_V [.null, .null, .null, .null, .int 0] j)) (Nat.le_of_ble_eq_true rfl) (Nat.le_of_ble_eq_true rfl) dX7_init_82 rfl (fun t8 e8 => ?_)
  have O := ax_kS e8
  replace Z := ax_k2 e8
  refine ax_dup (pc' := 86) rfl dX7_init_85 rfl ?_
  refine ax_callI (pc' := 89) li_X7_48 (n_Sightings O Z) rfl rfl (Nat.le_of_ble_eq_true rfl) (Nat.le_of_ble_eq_true rfl) (Nat.le_of_ble_eq_true rfl) (Nat.le_of_ble_eq_true rfl) dX7_init_86 rfl (fun r8 u8 h8 => ?_)
  obtain ⟨rfl, hSeen, Z, G8⟩ := h8
  replace X_o := (G8 0 (by decide)).trans (ax_kN e8 X_o (by decide))
  refine ax_putFU (pc' := 92) ff_X7_49 rfl X_o rfl (fun _ => ⟨rfl, rfl⟩) dX7_init_89 rfl (fun v8 f8 => ?_)
  replace X_o := ax_kS f8
  replace Z := (ax_k2 f8).trans Z
  have K8 : ∀ q, 1 ≤ q → q < 32 → v8.1 q = v7.1 q := fun q a b => (ax_kF f8 (by omega)).trans ((G8 q b).trans (ax_kF e8 (by omega)))
  replace hPaper := hPaper.on (τ := v8) (fun q _ _ => K8 q (by omega) (by omega))
  replace hReader := hReader.on (τ := v8) (fun q _ _ => K8 q (by omega) (by omega))
  replace hBook := hBook.on (τ := v8) (fun q _ _ => K8 q (by omega) (by omega))
  replace hYear := hYear.on (τ := v8) (fun q _ _ => K8 q (by omega) (by omega))
  replace hKf := hKf.on (τ := v8) (fun q _ _ => K8 q (by omega) (by omega))
  replace hKs := hKs.on (τ := v8) (fun q _ _ => K8 q (by omega) (by omega))
  replace hTrail := hTrail.on (τ := v8) (fun q _ _ => K8 q (by omega) (by omega))
  replace hSeen := hSeen.on (τ := v8) (fun q _ _ => ax_kF f8 (by omega))
  clear e8 f8 O G8 K8
  refine ax_aload_n (pc' := 93) rfl dX7_init_92 rfl ?_
  refine ax_newU (pc' := 96) (ci := 2) (fs := [.null, .null, .int 0]) Z rfl tyX2_ok cl_X7_53 ci_X2 mi_X2 (fun x => (by decide : ∀ j, j < 3 → defaultValue (tyX2 j) = vp_V [.null, .null, .int 0] j)) (Nat.le_of_ble_eq_true rfl) (Nat.le_of_ble_eq_true rfl) dX7_init_93 rfl (fun t9 e9 => ?_)
  have O := ax_kS e9
  replace Z := ax_k2 e9
  refine ax_dup (pc' := 97) rfl dX7_init_96 rfl ?_
  refine ax_callI (pc' := 100) li_X7_55 (n_Girths O Z) rfl rfl (Nat.le_of_ble_eq_true rfl) (Nat.le_of_ble_eq_true rfl) (Nat.le_of_ble_eq_true rfl) (Nat.le_of_ble_eq_true rfl) dX7_init_97 rfl (fun r9 u9 h9 => ?_)
  obtain ⟨rfl, hGirths, Z, G9⟩ := h9
  replace X_o := (G9 0 (by decide)).trans (ax_kN e9 X_o (by decide))
  refine ax_putFU (pc' := 103) ff_X7_56 rfl X_o rfl (fun _ => ⟨rfl, rfl⟩) dX7_init_100 rfl (fun v9 f9 => ?_)
  replace X_o := ax_kS f9
  replace Z := (ax_k2 f9).trans Z
  have K9 : ∀ q, 1 ≤ q → q < 37 → v9.1 q = v8.1 q := fun q a b => (ax_kF f9 (by omega)).trans ((G9 q b).trans (ax_kF e9 (by omega)))
  replace hPaper := hPaper.on (τ := v9) (fun q _ _ => K9 q (by omega) (by omega))
  replace hReader := hReader.on (τ := v9) (fun q _ _ => K9 q (by omega) (by omega))
  replace hBook := hBook.on (τ := v9) (fun q _ _ => K9 q (by omega) (by omega))
  replace hYear := hYear.on (τ := v9) (fun q _ _ => K9 q (by omega) (by omega))
  replace hKf := hKf.on (τ := v9) (fun q _ _ => K9 q (by omega) (by omega))
  replace hKs := hKs.on (τ := v9) (fun q _ _ => K9 q (by omega) (by omega))
  replace hTrail := hTrail.on (τ := v9) (fun q _ _ => K9 q (by omega) (by omega))
  replace hSeen := hSeen.on (τ := v9) (fun q _ _ => K9 q (by omega) (by omega))
  replace hGirths := hGirths.on (τ := v9) (fun q _ _ => ax_kF f9 (by omega))
  clear e9 f9 O G9 K9
  refine ax_aload_n (pc' := 104) rfl dX7_init_103 rfl ?_
  refine ax_newU (pc' := 107) (ci := 0) (fs := [.null, .null, .null, .null, .null, .null, .null, .int 0, .int 0, .int 0]) Z rfl tyX0_ok cl_X7_60 ci_X0 mi_X0 (fun x => (by decide : ∀ j, j < 10 → defaultValue (tyX0 j) = vp_V [.null, .null, .null, .null, .null, .null, .null, .int 0, .int 0, .int 0] j)) (Nat.le_of_ble_eq_true rfl) (Nat.le_of_ble_eq_true rfl) dX7_init_104 rfl (fun t10 e10 => ?_)
  have O := ax_kS e10
  replace Z := ax_k2 e10
  refine ax_dup (pc' := 108) rfl dX7_init_107 rfl ?_
  refine ax_callI (pc' := 111) li_X7_62 (n_Ball O Z) rfl rfl (Nat.le_of_ble_eq_true rfl) (Nat.le_of_ble_eq_true rfl) (Nat.le_of_ble_eq_true rfl) (Nat.le_of_ble_eq_true rfl) dX7_init_108 rfl (fun r10 u10 h10 => ?_)
  obtain ⟨rfl, hBall, Z, G10⟩ := h10
  replace X_o := (G10 0 (by decide)).trans (ax_kN e10 X_o (by decide))
  refine ax_putu (pc' := 114) fp_X7_63 X_o rfl (fun _ => ⟨rfl, rfl⟩) dX7_init_111 rfl (fun v10 f10 => ?_)
  replace X_o := ax_kS f10
  replace Z := (ax_k2 f10).trans Z
  have K10 : ∀ q, 1 ≤ q → q < 40 → v10.1 q = v9.1 q := fun q a b => (ax_kF f10 (by omega)).trans ((G10 q b).trans (ax_kF e10 (by omega)))
  replace hPaper := hPaper.on (τ := v10) (fun q _ _ => K10 q (by omega) (by omega))
  replace hReader := hReader.on (τ := v10) (fun q _ _ => K10 q (by omega) (by omega))
  replace hBook := hBook.on (τ := v10) (fun q _ _ => K10 q (by omega) (by omega))
  replace hYear := hYear.on (τ := v10) (fun q _ _ => K10 q (by omega) (by omega))
  replace hKf := hKf.on (τ := v10) (fun q _ _ => K10 q (by omega) (by omega))
  replace hKs := hKs.on (τ := v10) (fun q _ _ => K10 q (by omega) (by omega))
  replace hTrail := hTrail.on (τ := v10) (fun q _ _ => K10 q (by omega) (by omega))
  replace hSeen := hSeen.on (τ := v10) (fun q _ _ => K10 q (by omega) (by omega))
  replace hGirths := hGirths.on (τ := v10) (fun q _ _ => K10 q (by omega) (by omega))
  replace hBall := hBall.on (τ := v10) (fun q _ _ => ax_kF f10 (by omega))
  clear e10 f10 O G10 K10
  refine ax_aload_n (pc' := 115) rfl dX7_init_114 rfl ?_
  refine ax_newU (pc' := 118) (ci := 0) (fs := [.null, .null, .null, .null, .null, .null, .null, .int 0, .int 0, .int 0]) Z rfl tyX0_ok cl_X7_60 ci_X0 mi_X0 (fun x => (by decide : ∀ j, j < 10 → defaultValue (tyX0 j) = vp_V [.null, .null, .null, .null, .null, .null, .null, .int 0, .int 0, .int 0] j)) (Nat.le_of_ble_eq_true rfl) (Nat.le_of_ble_eq_true rfl) dX7_init_115 rfl (fun t11 e11 => ?_)
  have O := ax_kS e11
  replace Z := ax_k2 e11
  refine ax_dup (pc' := 119) rfl dX7_init_118 rfl ?_
  refine ax_callI (pc' := 122) li_X7_62 (n_Ball O Z) rfl rfl (Nat.le_of_ble_eq_true rfl) (Nat.le_of_ble_eq_true rfl) (Nat.le_of_ble_eq_true rfl) (Nat.le_of_ble_eq_true rfl) dX7_init_119 rfl (fun r11 u11 h11 => ?_)
  obtain ⟨rfl, hSpare, Z, G11⟩ := h11
  replace X_o := (G11 0 (by decide)).trans (ax_kN e11 X_o (by decide))
  refine ax_putu (pc' := 125) fp_X7_67 X_o rfl (fun _ => ⟨rfl, rfl⟩) dX7_init_122 rfl (fun v11 f11 => ?_)
  replace X_o := ax_kS f11
  replace Z := (ax_k2 f11).trans Z
  have K11 : ∀ q, 1 ≤ q → q < 48 → v11.1 q = v10.1 q := fun q a b => (ax_kF f11 (by omega)).trans ((G11 q b).trans (ax_kF e11 (by omega)))
  replace hPaper := hPaper.on (τ := v11) (fun q _ _ => K11 q (by omega) (by omega))
  replace hReader := hReader.on (τ := v11) (fun q _ _ => K11 q (by omega) (by omega))
  replace hBook := hBook.on (τ := v11) (fun q _ _ => K11 q (by omega) (by omega))
  replace hYear := hYear.on (τ := v11) (fun q _ _ => K11 q (by omega) (by omega))
  replace hKf := hKf.on (τ := v11) (fun q _ _ => K11 q (by omega) (by omega))
  replace hKs := hKs.on (τ := v11) (fun q _ _ => K11 q (by omega) (by omega))
  replace hTrail := hTrail.on (τ := v11) (fun q _ _ => K11 q (by omega) (by omega))
  replace hSeen := hSeen.on (τ := v11) (fun q _ _ => K11 q (by omega) (by omega))
  replace hGirths := hGirths.on (τ := v11) (fun q _ _ => K11 q (by omega) (by omega))
  replace hBall := hBall.on (τ := v11) (fun q _ _ => K11 q (by omega) (by omega))
  replace hSpare := hSpare.on (τ := v11) (fun q _ _ => ax_kF f11 (by omega))
  clear e11 f11 O G11 K11
  refine ax_aload_n (pc' := 126) rfl dX7_init_125 rfl ?_
  refine ax_iconst (pc' := 127) (v := (nI 0)) kc_0 dX7_init_126 rfl ?_
  refine ax_putu (pc' := 130) fp_X7_70 X_o rfl (fun _ => ⟨rfl, rfl⟩) dX7_init_127 rfl (fun w1 q1 => ?_)
  replace X_o := ax_kS q1
  replace Z := (ax_k2 q1).trans Z
  replace hPaper := hPaper.on (τ := w1) (fun q _ _ => ax_kF q1 (by omega))
  replace hReader := hReader.on (τ := w1) (fun q _ _ => ax_kF q1 (by omega))
  replace hBook := hBook.on (τ := w1) (fun q _ _ => ax_kF q1 (by omega))
  replace hYear := hYear.on (τ := w1) (fun q _ _ => ax_kF q1 (by omega))
  replace hKf := hKf.on (τ := w1) (fun q _ _ => ax_kF q1 (by omega))
  replace hKs := hKs.on (τ := w1) (fun q _ _ => ax_kF q1 (by omega))
  replace hTrail := hTrail.on (τ := w1) (fun q _ _ => ax_kF q1 (by omega))
  replace hSeen := hSeen.on (τ := w1) (fun q _ _ => ax_kF q1 (by omega))
  replace hGirths := hGirths.on (τ := w1) (fun q _ _ => ax_kF q1 (by omega))
  replace hBall := hBall.on (τ := w1) (fun q _ _ => ax_kF q1 (by omega))
  replace hSpare := hSpare.on (τ := w1) (fun q _ _ => ax_kF q1 (by omega))
  refine ax_iconst (pc' := 131) (v := (nI 0)) kc_0 dX7_init_130 rfl ?_
  refine ax_istore_n (pc' := 132) rfl (Nat.le_of_ble_eq_true rfl) dX7_init_131 rfl ?_
  have hT : sp_tok 91 tx_1 := ⟨by decide, tx_1_le⟩
  have K : ∀ m i (τ : ax_S), i + m = 91 → τ.1 0 = some (.inr (7, [.ref 1, .ref 3, .ref 5, .ref 10, .ref 15, .ref 20, .ref 25, .ref 32, .ref 37, .ref 40, .ref 48, .int (nI 0)])) → pa_At τ.1 i tx_1 → ax_fr 1 2 w1 τ → ax_J (mX7_init, 8, 55, 692) 55 692 132 [some (.ref 0), some (.int (nI i))] [] τ (nw_Po 0 56 σ (fun h => xs_At h (sp_S0 tx_1))) := by
    intro m
    induction m with
    | zero =>
      intro i τ hi X_o hPa hF
      have hi : i = 91 := hi
      subst hi
      replace hReader := hReader.on (τ := τ) (fun q _ _ => hF.2 q (by omega))
      replace hBook := hBook.on (τ := τ) (fun q _ _ => hF.2 q (by omega))
      replace hYear := hYear.on (τ := τ) (fun q _ _ => hF.2 q (by omega))
      replace hKf := hKf.on (τ := τ) (fun q _ _ => hF.2 q (by omega))
      replace hKs := hKs.on (τ := τ) (fun q _ _ => hF.2 q (by omega))
      replace hTrail := hTrail.on (τ := τ) (fun q _ _ => hF.2 q (by omega))
      replace hSeen := hSeen.on (τ := τ) (fun q _ _ => hF.2 q (by omega))
      replace hGirths := hGirths.on (τ := τ) (fun q _ _ => hF.2 q (by omega))
      replace hBall := hBall.on (τ := τ) (fun q _ _ => hF.2 q (by omega))
      replace hSpare := hSpare.on (τ := τ) (fun q _ _ => hF.2 q (by omega))
      replace Z := hF.1.trans Z
      have Rd_o : τ.1 3 = _ := hReader.choose_spec.choose_spec.1
      refine ax_iload_n (pc' := 133) rfl dX7_init_132 rfl ?_
      refine ax_ldcS (pc' := 135) rfl dX7_init_133 rfl ?_
      refine ax_callT (pc' := 138) lt_X7_76 t_length rfl rfl (Nat.le_of_ble_eq_true rfl) (Nat.le_of_ble_eq_true rfl) (Nat.le_refl _) (Nat.le_refl _) dX7_init_135 rfl ?_
      refine ax_icmp_ge (pc' := 141) (tgt := 160) dX7_init_138 (by decide) rfl (fun _ => ?_) (fun hz => absurd ((by decide)) hz)
      refine ax_aload_n (pc' := 161) rfl dX7_init_160 rfl ?_
      refine ax_getf (pc' := 164) fl_X7_19 X_o rfl dX7_init_161 rfl ?_
      refine ax_aload_n (pc' := 165) rfl dX7_init_164 rfl ?_
      refine ax_getf (pc' := 168) fl_X7_12 X_o rfl dX7_init_165 rfl ?_
      refine ax_aload_n (pc' := 169) rfl dX7_init_168 rfl ?_
      refine ax_getf (pc' := 172) fl_X7_63 X_o rfl dX7_init_169 rfl ?_
      refine ax_callVG (pc' := 175) lv_X7_90 (c_firstFault hT hPa hReader (p := 40) (by decide) hBall) Rd_o rfl rfl (Nat.le_of_ble_eq_true rfl) (Nat.le_of_ble_eq_true rfl) dX7_init_172 rfl (fun r2 s2 hr2 => ?_) (hk := Nat.le_refl _) (hw := Nat.le_refl _)
      obtain ⟨hF2, hRd2, ⟨j, hj, -⟩ | ⟨b, hb, hbo, rfl, hB2⟩⟩ := hr2
      · rw [pa_1] at hj
        cases hj
      rw [pa_1] at hb
      cases hb
      have X_o := (hF2.2 0 (by decide) (by decide) (by decide)).trans X_o
      have hPa := hPa.on (τ := s2) (fun q _ _ => hF2.2 q (by omega) (by omega) (by omega))
      have Pp_o : s2.1 1 = _ := hPa.choose_spec.1
      refine ax_pop (pc' := 176) rfl dX7_init_175 rfl ?_
      refine ax_aload_n (pc' := 177) rfl dX7_init_176 rfl ?_
      refine ax_getf (pc' := 180) fl_X7_12 X_o rfl dX7_init_177 rfl ?_
      refine ax_callVG (pc' := 183) lv_X7_94 (c_Paper_clear hPa) Pp_o rfl rfl (Nat.le_of_ble_eq_true rfl) (Nat.le_of_ble_eq_true rfl) dX7_init_180 rfl (fun r3 s3 hr3 => ?_) (hk := Nat.le_refl _) (hw := Nat.le_refl _)
      obtain ⟨rfl, hPa3, hF3⟩ := hr3
      have G : ∀ q, 5 ≤ q → (q < 40 ∨ 48 ≤ q) → s3.1 q = τ.1 q := fun q a1 a2 => (hF3.2 q (by omega)).trans (hF2.2 q (by omega) (by omega) (by omega))
      exact ax_vret dX7_init_183 rfl (Nat.le_of_ble_eq_true rfl) (Nat.le_of_ble_eq_true rfl) (⟨rfl, ⟨40, 48, [], Or.inl ⟨rfl, rfl⟩, ⟨(hF3.2 0 (by omega)).trans X_o, hB2.on (fun q _ _ => hF3.2 q (by omega)), hbo, by decide⟩, hPa3, hRd2.on (fun q _ _ => hF3.2 q (by omega)), hBook.on (fun q _ _ => G q (by omega) (by omega)), hYear.any.on (fun q _ _ => G q (by omega) (by omega)), hKf.any.on (fun q _ _ => G q (by omega) (by omega)), hKs.any.on (fun q _ _ => G q (by omega) (by omega)), hTrail.on (fun q _ _ => G q (by omega) (by omega)), tr_ok_nil, hSeen.on (fun q _ _ => G q (by omega) (by omega)), hGirths.on (fun q _ _ => G q (by omega) (by omega)), hSpare.on (fun q _ _ => G q (by omega) (by omega))⟩, hF3.1.trans (hF2.1.trans Z), fun q hq => absurd hq (Nat.not_lt_zero _)⟩)
    | succ m ih =>
      intro i τ hi X_o hPa hF
      have Pp_o : τ.1 1 = _ := hPa.choose_spec.1
      refine ax_iload_n (pc' := 133) rfl dX7_init_132 rfl ?_
      refine ax_ldcS (pc' := 135) rfl dX7_init_133 rfl ?_
      refine ax_callT (pc' := 138) lt_X7_76 t_length rfl rfl (Nat.le_of_ble_eq_true rfl) (Nat.le_of_ble_eq_true rfl) (Nat.le_refl _) (Nat.le_refl _) dX7_init_135 rfl ?_
      refine ax_icmp_ge (pc' := 141) (tgt := 160) dX7_init_138 (by decide) rfl (fun hz => absurd hz (nI_ge (by omega) (by decide))) (fun _ => ?_)
      refine ax_aload_n (pc' := 142) rfl dX7_init_141 rfl ?_
      refine ax_getf (pc' := 145) fl_X7_12 X_o rfl dX7_init_142 rfl ?_
      refine ax_ldcS (pc' := 147) rfl dX7_init_145 rfl ?_
      refine ax_iload_n (pc' := 148) rfl dX7_init_147 rfl ?_
      refine ax_callT (pc' := 151) lt_X7_82 (t_charAt (j := i) (by omega)) rfl rfl (Nat.le_of_ble_eq_true rfl) (Nat.le_of_ble_eq_true rfl) (Nat.le_refl _) (Nat.le_refl _) dX7_init_148 rfl ?_
      refine ax_callVG (pc' := 154) lv_X7_86 (c_append hPa (by omega)) Pp_o rfl rfl (Nat.le_of_ble_eq_true rfl) (Nat.le_of_ble_eq_true rfl) dX7_init_151 rfl (fun r2 s2 hr2 => ?_) (hk := Nat.le_refl _) (hw := Nat.le_refl _)
      obtain ⟨rfl, hPa2, hF2⟩ := hr2
      have e : sp_up tx_1 i (tx_1 i) = tx_1 := by
        funext q
        unfold sp_up
        split
        · subst_vars; rfl
        · rfl
      rw [e] at hPa2
      refine ax_iinc1 (pc' := 157) rfl rfl (Nat.le_of_ble_eq_true rfl) dX7_init_154 rfl ?_
      refine ax_goto (tgt := 132) dX7_init_157 (by decide) ?_
      exact ih (i + 1) s2 (by omega) ((hF2.2 0 (by omega)).trans X_o) hPa2 (hF.tr hF2 (by omega) (by omega))
  exact K 91 0 w1 (by decide) X_o hPaper ax_fr.rf
end NX
