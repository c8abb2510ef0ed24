/-! ===== the class's calls, first half ===== -/
theorem sp_out {v : Int32} {lo hi : Nat} (hl : lo < 2 ^ 31) (hh : hi < 2 ^ 31) (h : ¬ (nI lo ≤ v ∧ v ≤ nI hi)) : v.toInt < lo ∨ (hi : Int) < v.toInt := by
  by_cases h1 : v.toInt < lo
  · exact Or.inl h1
  · right
    have h2 : nI lo ≤ v := by rw [Int32.le_iff_toInt_le, nI_toInt hl]; omega
    have h3 : ¬ v ≤ nI hi := fun q => h ⟨h2, q⟩
    rw [Int32.le_iff_toInt_le, nI_toInt hh] at h3
    omega
theorem sp_out_ne {v : Int32} {lo hi j : Nat} (hh : hi < 2 ^ 31) (h : ¬ (nI lo ≤ v ∧ v ≤ nI hi)) (h1 : lo ≤ j) (h2 : j ≤ hi) : ¬ v = nI j := fun e => h (by rw [e]; exact ⟨nI_le h1 (by omega), nI_le h2 hh⟩)
section XA
variable {σ : ax_S} {S : sp_S}
theorem x_write (hx : xs_At σ.1 S) (hS : sp_Ok S) (v : Int32) : ax_N mX7_write 8 0 0 [.ref 0, .int v] σ (xs_Po σ (o_write S v)) := by
  have hx0 := hx
  obtain ⟨pb, pq, ts, hpp, hX, hPa, hRd, hK, hY, hK1, hK2, hT, hto, hSg, hG, hQ⟩ := hx
  have X_o := hX.1
  have Pp_o : σ.1 1 = _ := hPa.choose_spec.1
  have hn := hS.1.1
  refine ax_N.of (ls := [some (.ref 0), some (.int v)]) (by decide +kernel) rfl (Nat.le_of_ble_eq_true rfl) ?_
  refine ax_iload_n (pc' := 1) rfl dX7_write_0 rfl ?_
  refine ax_bipush (pc' := 3) (v := (nI 32)) kb_32 dX7_write_1 rfl ?_
  refine ax_bipush (pc' := 5) (v := (nI 126)) kb_126 dX7_write_3 rfl ?_
  rcases sp_in_cases v (lo := 32) (hi := 126) (by decide) (by decide) with ⟨c, h1, h2, rfl, e⟩ | ⟨hv, e⟩
  · refine ax_callSR (pc' := 8) ls_X7_97 (c_withinT (nI_le h1 (by omega)) (nI_le h2 (by decide))) rfl rfl (Nat.le_of_ble_eq_true rfl) (Nat.le_of_ble_eq_true rfl) dX7_write_5 rfl ?_
    refine ax_if_ne (pc' := 11) (tgt := 13) dX7_write_8 (by decide) rfl (fun _ => ?_) (fun hz => absurd hz (kz_1))
    refine ax_aload_n (pc' := 14) rfl dX7_write_13 rfl ?_
    refine ax_getf (pc' := 17) fl_X7_12 X_o rfl dX7_write_14 rfl ?_
    refine ax_getf (pc' := 20) fl_X7_101 Pp_o rfl dX7_write_17 rfl ?_
    refine ax_sipush (pc' := 23) (v := (nI 200)) ks_200 dX7_write_20 rfl ?_
    by_cases h200 : S.1.1 < 200
    · have ho : o_write S (nI c) = (nI (S.1.1 + 1), ((S.1.1 + 1, sp_up S.1.2 S.1.1 c), S.2)) := by simp [o_write, e, h200]
      rw [ho]
      refine ax_icmp_lt (pc' := 26) (tgt := 29) dX7_write_23 (by decide) rfl (fun _ => ?_) (fun hz => absurd (nI_lt h200 (by decide)) hz)
      refine ax_aload_n (pc' := 30) rfl dX7_write_29 rfl ?_
      refine ax_getf (pc' := 33) fl_X7_12 X_o rfl dX7_write_30 rfl ?_
      refine ax_iload_n (pc' := 34) rfl dX7_write_33 rfl ?_
      refine ax_callVG (pc' := 37) lv_X7_86 (c_append hPa h200) Pp_o rfl rfl (Nat.le_of_ble_eq_true rfl) (Nat.le_of_ble_eq_true rfl) dX7_write_34 rfl (fun r σ' hr => ?_)
      obtain ⟨rfl, hPa2, hF⟩ := hr
      have X_o := hF.at X_o (by omega)
      have Pp_o : σ'.1 1 = _ := hPa2.choose_spec.1
      refine ax_aload_n (pc' := 38) rfl dX7_write_37 rfl ?_
      refine ax_getf (pc' := 41) fl_X7_12 X_o rfl dX7_write_38 rfl ?_
      refine ax_getf (pc' := 44) fl_X7_101 Pp_o rfl dX7_write_41 rfl ?_
      exact ax_iret dX7_write_44 rfl (Nat.le_of_ble_eq_true rfl) (Nat.le_of_ble_eq_true rfl) (⟨rfl, ⟨pb, pq, ts, hpp, hX.on (hF.2 0 (by omega)) (fun q _ _ => hF.2 q (by omega)), hPa2, hRd.on (fun q _ _ => hF.2 q (by omega)), hK.on (fun q _ _ => hF.2 q (by omega)), hY.on (fun q _ _ => hF.2 q (by omega)), hK1.on (fun q _ _ => hF.2 q (by omega)), hK2.on (fun q _ _ => hF.2 q (by omega)), hT.on (fun q _ _ => hF.2 q (by omega)), hto, hSg.on (fun q _ _ => hF.2 q (by omega)), hG.on (fun q _ _ => hF.2 q (by omega)), hQ.on (fun q _ _ => hF.2 q (by omega))⟩, ax_fr.rf.tr hF (by omega) (by omega)⟩)
    · have ho : o_write S (nI c) = (-3, S) := by simp [o_write, e, h200]
      rw [ho]
      refine ax_icmp_lt (pc' := 26) (tgt := 29) dX7_write_23 (by decide) rfl (fun hz => absurd hz (nI_nlt (by omega) (by omega))) (fun _ => ?_)
      refine ax_bipush (pc' := 28) (v := (-3)) kb_m3 dX7_write_26 rfl ?_
      exact ax_iret dX7_write_28 rfl (Nat.le_of_ble_eq_true rfl) (Nat.le_of_ble_eq_true rfl) (⟨rfl, hx0, ax_fr.rf⟩)
  · have ho : o_write S v = (-1, S) := by simp [o_write, e]
    rw [ho]
    refine ax_callSR (pc' := 8) ls_X7_97 (c_withinF hv) rfl rfl (Nat.le_of_ble_eq_true rfl) (Nat.le_of_ble_eq_true rfl) dX7_write_5 rfl ?_
    refine ax_if_ne (pc' := 11) (tgt := 13) dX7_write_8 (by decide) rfl (fun hz => absurd (kz_0) hz) (fun _ => ?_)
    refine ax_iconst (pc' := 12) (v := (-1)) kc_m1 dX7_write_11 rfl ?_
    exact ax_iret dX7_write_12 rfl (Nat.le_of_ble_eq_true rfl) (Nat.le_of_ble_eq_true rfl) (⟨rfl, hx0, ax_fr.rf⟩)
theorem x_wipe (hx : xs_At σ.1 S) (hS : sp_Ok S) : ax_N mX7_wipe 8 0 0 [.ref 0] σ (xs_Po σ (o_wipe S)) := by
  obtain ⟨pb, pq, ts, hpp, hX, hPa, hRd, hK, hY, hK1, hK2, hT, hto, hSg, hG, hQ⟩ := hx
  have X_o := hX.1
  have Pp_o : σ.1 1 = _ := hPa.choose_spec.1
  refine ax_N.of (ls := [some (.ref 0), none]) (by decide +kernel) rfl (Nat.le_of_ble_eq_true rfl) ?_
  refine ax_aload_n (pc' := 1) rfl dX7_wipe_0 rfl ?_
  refine ax_getf (pc' := 4) fl_X7_12 X_o rfl dX7_wipe_1 rfl ?_
  refine ax_getf (pc' := 7) fl_X7_101 Pp_o rfl dX7_wipe_4 rfl ?_
  refine ax_istore_n (pc' := 8) rfl (Nat.le_of_ble_eq_true rfl) dX7_wipe_7 rfl ?_
  refine ax_aload_n (pc' := 9) rfl dX7_wipe_8 rfl ?_
  refine ax_getf (pc' := 12) fl_X7_12 X_o rfl dX7_wipe_9 rfl ?_
  refine ax_callVG (pc' := 15) lv_X7_94 (c_Paper_clear hPa) Pp_o rfl rfl (Nat.le_of_ble_eq_true rfl) (Nat.le_of_ble_eq_true rfl) dX7_wipe_12 rfl (fun r σ' hr => ?_)
  obtain ⟨rfl, hPa2, hF⟩ := hr
  refine ax_iload_n (pc' := 16) rfl dX7_wipe_15 rfl ?_
  exact ax_iret dX7_wipe_16 rfl (Nat.le_of_ble_eq_true rfl) (Nat.le_of_ble_eq_true rfl) (⟨rfl, ⟨pb, pq, ts, hpp, hX.on (hF.2 0 (by omega)) (fun q _ _ => hF.2 q (by omega)), hPa2, hRd.on (fun q _ _ => hF.2 q (by omega)), hK.on (fun q _ _ => hF.2 q (by omega)), hY.on (fun q _ _ => hF.2 q (by omega)), hK1.on (fun q _ _ => hF.2 q (by omega)), hK2.on (fun q _ _ => hF.2 q (by omega)), hT.on (fun q _ _ => hF.2 q (by omega)), hto, hSg.on (fun q _ _ => hF.2 q (by omega)), hG.on (fun q _ _ => hF.2 q (by omega)), hQ.on (fun q _ _ => hF.2 q (by omega))⟩, ax_fr.rf.tr hF (by omega) (by omega)⟩)
theorem x_fault (hx : xs_At σ.1 S) (hS : sp_Ok S) : ax_N mX7_fault 8 0 0 [.ref 0] σ (xs_Po σ (o_fault S)) := by
  obtain ⟨pb, pq, ts, hpp, hX, hPa, hRd, hK, hY, hK1, hK2, hT, hto, hSg, hG, hQ⟩ := hx
  have X_o := hX.1
  have Rd_o : σ.1 3 = _ := hRd.choose_spec.choose_spec.1
  have hf := c_firstFault hS.1 hPa hRd (p := pq) (by omega) hQ
  refine ax_N.of (ls := [some (.ref 0)]) (by decide +kernel) rfl (Nat.le_of_ble_eq_true rfl) ?_
  refine ax_aload_n (pc' := 1) rfl dX7_fault_0 rfl ?_
  refine ax_getf (pc' := 4) fl_X7_19 X_o rfl dX7_fault_1 rfl ?_
  refine ax_aload_n (pc' := 5) rfl dX7_fault_4 rfl ?_
  refine ax_getf (pc' := 8) fl_X7_12 X_o rfl dX7_fault_5 rfl ?_
  refine ax_aload_n (pc' := 9) rfl dX7_fault_8 rfl ?_
  refine ax_getf (pc' := 12) fl_X7_67 X_o rfl dX7_fault_9 rfl ?_
  refine ax_callVG (pc' := 15) lv_X7_90 (hf) Rd_o rfl rfl (Nat.le_of_ble_eq_true rfl) (Nat.le_of_ble_eq_true rfl) dX7_fault_12 rfl (fun r σ' hr => ?_)
  obtain ⟨hF, hRd2, hr⟩ := hr
  have keep : bl_Any σ'.1 pq → xs_At σ'.1 S := fun hQ2 => ⟨pb, pq, ts, hpp, hX.on (hF.2 0 (by omega) (by omega) (by omega)) (fun q _ _ => hF.2 q (by omega) (by omega) (by omega)), hPa.on (fun q _ _ => hF.2 q (by omega) (by omega) (by omega)), hRd2, hK.on (fun q _ _ => hF.2 q (by omega) (by omega) (by omega)), hY.on (fun q _ _ => hF.2 q (by omega) (by omega) (by omega)), hK1.on (fun q _ _ => hF.2 q (by omega) (by omega) (by omega)), hK2.on (fun q _ _ => hF.2 q (by omega) (by omega) (by omega)), hT.on (fun q _ _ => hF.2 q (by omega) (by omega) (by omega)), hto, hSg.on (fun q _ _ => hF.2 q (by omega) (by omega) (by omega)), hG.on (fun q _ _ => hF.2 q (by omega) (by omega) (by omega)), hQ2⟩
  have hF0 : ax_fr 0 56 σ σ' := ⟨hF.1, fun q hq => hF.2 q (by omega) (by omega) (by omega)⟩
  rcases hr with ⟨i, hi, -, rfl, hQ2⟩ | ⟨b, hb, -, rfl, hB2⟩
  · have ho : o_fault S = (nI i, S) := by simp only [o_fault, hi]
    rw [ho]
    exact ax_iret dX7_fault_15 rfl (Nat.le_of_ble_eq_true rfl) (Nat.le_of_ble_eq_true rfl) (⟨rfl, keep hQ2, hF0⟩)
  · have ho : o_fault S = (-4, S) := by simp only [o_fault, hb]
    rw [ho]
    exact ax_iret dX7_fault_15 rfl (Nat.le_of_ble_eq_true rfl) (Nat.le_of_ble_eq_true rfl) (⟨rfl, keep hB2.choose_spec.1.any, hF0⟩)
theorem x_lay (hx : xs_At σ.1 S) (hS : sp_Ok S) : ax_N mX7_lay 8 0 0 [.ref 0] σ (xs_Po σ (o_lay S)) := by
  obtain ⟨pb, pq, ts, hpp, hX, hPa, hRd, hK, hY, hK1, hK2, hT, hto, hSg, hG, hQ⟩ := hx
  have X_o := hX.1
  have Rd_o : σ.1 3 = _ := hRd.choose_spec.choose_spec.1
  have hf := c_firstFault hS.1 hPa hRd (p := pq) (by omega) hQ
  refine ax_N.of (ls := [some (.ref 0), none]) (by decide +kernel) rfl (Nat.le_of_ble_eq_true rfl) ?_
  refine ax_aload_n (pc' := 1) rfl dX7_lay_0 rfl ?_
  refine ax_getf (pc' := 4) fl_X7_19 X_o rfl dX7_lay_1 rfl ?_
  refine ax_aload_n (pc' := 5) rfl dX7_lay_4 rfl ?_
  refine ax_getf (pc' := 8) fl_X7_12 X_o rfl dX7_lay_5 rfl ?_
  refine ax_aload_n (pc' := 9) rfl dX7_lay_8 rfl ?_
  refine ax_getf (pc' := 12) fl_X7_67 X_o rfl dX7_lay_9 rfl ?_
  refine ax_callVG (pc' := 15) lv_X7_90 (hf) Rd_o rfl rfl (Nat.le_of_ble_eq_true rfl) (Nat.le_of_ble_eq_true rfl) dX7_lay_12 rfl (fun r σ' hr => ?_)
  obtain ⟨hF, hRd2, hr⟩ := hr
  have hX2 := hX.on (τ := σ') (hF.2 0 (by omega) (by omega) (by omega)) (fun q _ _ => hF.2 q (by omega) (by omega) (by omega))
  have hPa := hPa.on (τ := σ') (fun q _ _ => hF.2 q (by omega) (by omega) (by omega))
  have hK := hK.on (τ := σ') (fun q _ _ => hF.2 q (by omega) (by omega) (by omega))
  have hY := hY.on (τ := σ') (fun q _ _ => hF.2 q (by omega) (by omega) (by omega))
  have hK1 := hK1.on (τ := σ') (fun q _ _ => hF.2 q (by omega) (by omega) (by omega))
  have hK2 := hK2.on (τ := σ') (fun q _ _ => hF.2 q (by omega) (by omega) (by omega))
  have hT := hT.on (τ := σ') (fun q _ _ => hF.2 q (by omega) (by omega) (by omega))
  have hSg := hSg.on (τ := σ') (fun q _ _ => hF.2 q (by omega) (by omega) (by omega))
  have hG := hG.on (τ := σ') (fun q _ _ => hF.2 q (by omega) (by omega) (by omega))
  have hF0 : ax_fr 0 56 σ σ' := ⟨hF.1, fun q hq => hF.2 q (by omega) (by omega) (by omega)⟩
  have keep : bl_Any σ'.1 pq → xs_At σ'.1 S := fun hQ2 => ⟨pb, pq, ts, hpp, hX2, hPa, hRd2, hK, hY, hK1, hK2, hT, hto, hSg, hG, hQ2⟩
  rcases hr with ⟨i, hi, hin, rfl, hQ2⟩ | ⟨b, hb, hbo, rfl, hB2⟩
  · have ho : o_lay S = (-2, S) := by simp only [o_lay, hi]
    rw [ho]
    have hn := hS.1.1
    refine ax_bipush (pc' := 17) (v := (-4)) kb_m4 dX7_lay_15 rfl ?_
    refine ax_icmp_eq (pc' := 20) (tgt := 23) dX7_lay_17 (by decide) rfl (fun hz => absurd hz (nI_ne4 (by omega))) (fun _ => ?_)
    refine ax_bipush (pc' := 22) (v := (-2)) kb_m2 dX7_lay_20 rfl ?_
    exact ax_iret dX7_lay_22 rfl (Nat.le_of_ble_eq_true rfl) (Nat.le_of_ble_eq_true rfl) (⟨rfl, keep hQ2, hF0⟩)
  · have X_o := hX2.1
    have h6 := hbo.2.1
    have h4 := hbo.2.2.1
    have hQ2 : bl_Any σ'.1 pq := hB2.choose_spec.1.any
    obtain ⟨fr, ⟨fl, fn, fb, fk, fp, fu, Q_o, Q_lies, Q_leans, Q_bends, Q_roads, Q_kinds, Q_paces, Q_units, r1, r2, r3⟩, hrd⟩ := id hB2
    refine ax_bipush (pc' := 17) (v := (-4)) kb_m4 dX7_lay_15 rfl ?_
    refine ax_icmp_eq (pc' := 20) (tgt := 23) dX7_lay_17 (by decide) rfl (fun _ => ?_) (fun hz => absurd (rfl) hz)
    refine ax_aload_n (pc' := 24) rfl dX7_lay_23 rfl ?_
    refine ax_getf (pc' := 27) fl_X7_67 X_o rfl dX7_lay_24 rfl ?_
    refine ax_getf (pc' := 30) fl_X7_103 Q_o rfl dX7_lay_27 rfl ?_
    refine ax_iconst (pc' := 31) (v := (nI 2)) kc_2 dX7_lay_30 rfl ?_
    by_cases ht : b.2.1 < 2
    · have ho : o_lay S = (-2, S) := by simp only [o_lay, hb, ht, true_or, if_true]
      rw [ho]
      refine ax_icmp_lt (pc' := 34) (tgt := 45) dX7_lay_31 (by decide) rfl (fun _ => ?_) (fun hz => absurd (nI_lt ht (by decide)) hz)
      refine ax_bipush (pc' := 47) (v := (-2)) kb_m2 dX7_lay_45 rfl ?_
      exact ax_iret dX7_lay_47 rfl (Nat.le_of_ble_eq_true rfl) (Nat.le_of_ble_eq_true rfl) (⟨rfl, keep hQ2, hF0⟩)
    · refine ax_icmp_lt (pc' := 34) (tgt := 45) dX7_lay_31 (by decide) rfl (fun hz => absurd hz (nI_nlt (by omega) (by omega))) (fun _ => ?_)
      refine ax_aload_n (pc' := 35) rfl dX7_lay_34 rfl ?_
      refine ax_getf (pc' := 38) fl_X7_67 X_o rfl dX7_lay_35 rfl ?_
      refine ax_getf (pc' := 41) fl_X7_106 Q_o rfl dX7_lay_38 rfl ?_
      refine ax_iconst (pc' := 42) (v := (nI 1)) kc_1 dX7_lay_41 rfl ?_
      by_cases hw : b.2.2.1 < 1
      · have ho : o_lay S = (-2, S) := by simp only [o_lay, hb, hw, or_true, if_true]
        rw [ho]
        refine ax_icmp_ge (pc' := 45) (tgt := 48) dX7_lay_42 (by decide) rfl (fun hz => absurd hz (nI_ge hw (by decide))) (fun _ => ?_)
        refine ax_bipush (pc' := 47) (v := (-2)) kb_m2 dX7_lay_45 rfl ?_
        exact ax_iret dX7_lay_47 rfl (Nat.le_of_ble_eq_true rfl) (Nat.le_of_ble_eq_true rfl) (⟨rfl, keep hQ2, hF0⟩)
      · have ho : o_lay S = (nI b.2.1, (S.1, b, ([], 0), [], [], [])) := by simp only [o_lay, hb, ht, hw, or_self, if_false]
        rw [ho]
        refine ax_icmp_ge (pc' := 45) (tgt := 48) dX7_lay_42 (by decide) rfl (fun _ => ?_) (fun hz => absurd (nI_le (by omega) (by omega)) hz)
        refine ax_aload_n (pc' := 49) rfl dX7_lay_48 rfl ?_
        refine ax_getf (pc' := 52) fl_X7_67 X_o rfl dX7_lay_49 rfl ?_
        refine ax_astore_n (pc' := 53) rfl (Nat.le_of_ble_eq_true rfl) dX7_lay_52 rfl ?_
        refine ax_aload_n (pc' := 54) rfl dX7_lay_53 rfl ?_
        refine ax_aload_n (pc' := 55) rfl dX7_lay_54 rfl ?_
        refine ax_getf (pc' := 58) fl_X7_63 X_o rfl dX7_lay_55 rfl ?_
        refine ax_putu (pc' := 61) fp_X7_67 X_o rfl (fun _ => ⟨rfl, rfl⟩) dX7_lay_58 rfl (fun s1 h1 => ?_)
        have X_o := ax_kS h1
        refine ax_aload_n (pc' := 62) rfl dX7_lay_61 rfl ?_
        refine ax_aload_n (pc' := 63) rfl dX7_lay_62 rfl ?_
        refine ax_putu (pc' := 66) fp_X7_63 X_o rfl (fun _ => ⟨rfl, rfl⟩) dX7_lay_63 rfl (fun s2 h2 => ?_)
        have X_o := ax_kS h2
        have g2 : ∀ q, 1 ≤ q → s2.1 q = σ'.1 q := fun q hq => (ax_kF h2 (by omega)).trans (ax_kF h1 (by omega))
        have gn : s2.2 = σ'.2 := (ax_k2 h2).trans (ax_k2 h1)
        have hK := hK.on (τ := s2) (fun q _ _ => g2 q (by omega))
        have hT := hT.on (τ := s2) (fun q _ _ => g2 q (by omega))
        have hSg := hSg.on (τ := s2) (fun q _ _ => g2 q (by omega))
        have K_o : s2.1 5 = _ := hK.choose_spec.choose_spec.choose_spec.choose_spec.1
        refine ax_aload_n (pc' := 67) rfl dX7_lay_66 rfl ?_
        refine ax_getf (pc' := 70) fl_X7_26 X_o rfl dX7_lay_67 rfl ?_
        refine ax_callVG (pc' := 73) lv_X7_109 (c_Book_clear hK.any) K_o rfl rfl (Nat.le_of_ble_eq_true rfl) (Nat.le_of_ble_eq_true rfl) dX7_lay_70 rfl (fun r3' s3 hr3 => ?_)
        obtain ⟨rfl, hK', hF3⟩ := hr3
        have X_o := hF3.at X_o (by omega)
        have hT := hT.on (τ := s3) (fun q _ _ => hF3.2 q (by omega))
        have T_o : s3.1 25 = _ := hT.choose_spec.choose_spec.choose_spec.choose_spec.choose_spec.choose_spec.1
        refine ax_aload_n (pc' := 74) rfl dX7_lay_73 rfl ?_
        refine ax_getf (pc' := 77) fl_X7_42 X_o rfl dX7_lay_74 rfl ?_
        refine ax_callVG (pc' := 80) lv_X7_110 (c_Trail_clear hT) T_o rfl rfl (Nat.le_of_ble_eq_true rfl) (Nat.le_of_ble_eq_true rfl) dX7_lay_77 rfl (fun r4' s4 hr4 => ?_)
        obtain ⟨rfl, hT', hF4⟩ := hr4
        have X_o := hF4.at X_o (by omega)
        have hSg := (hSg.on (τ := s3) (fun q _ _ => hF3.2 q (by omega))).on (τ := s4) (fun q _ _ => hF4.2 q (by omega))
        have S_o : s4.1 32 = _ := hSg.choose_spec.choose_spec.choose_spec.choose_spec.1
        refine ax_aload_n (pc' := 81) rfl dX7_lay_80 rfl ?_
        refine ax_getf (pc' := 84) fl_X7_49 X_o rfl dX7_lay_81 rfl ?_
        refine ax_callVG (pc' := 87) lv_X7_111 (c_Sightings_clear hSg) S_o rfl rfl (Nat.le_of_ble_eq_true rfl) (Nat.le_of_ble_eq_true rfl) dX7_lay_84 rfl (fun r5' s5 hr5 => ?_)
        obtain ⟨rfl, hSg', hF5⟩ := hr5
        have X_o := hF5.at X_o (by omega)
        refine ax_aload_n (pc' := 88) rfl dX7_lay_87 rfl ?_
        refine ax_iconst (pc' := 89) (v := (nI 0)) kc_0 dX7_lay_88 rfl ?_
        refine ax_putu (pc' := 92) fp_X7_70 X_o rfl (fun _ => ⟨rfl, rfl⟩) dX7_lay_89 rfl (fun s6 h6' => ?_)
        have X_o := ax_kS h6'
        have G : ∀ q, (q < 5 ∨ 10 ≤ q) → (q < 25 ∨ 37 ≤ q) → 1 ≤ q → s6.1 q = σ'.1 q := fun q a1 a2 a3 => (ax_kF h6' (by omega)).trans ((hF5.2 q (by omega)).trans ((hF4.2 q (by omega)).trans ((hF3.2 q (by omega)).trans (g2 q a3))))
        have hB6 : bl_At s6.1 pq b := hB2.on (fun q _ _ => G q (by omega) (by omega) (by omega))
        have Q_o : s6.1 pq = _ := (G pq (by omega) (by omega) (by omega)).trans Q_o
        refine ax_aload_n (pc' := 93) rfl dX7_lay_92 rfl ?_
        refine ax_getf (pc' := 96) fl_X7_63 X_o rfl dX7_lay_93 rfl ?_
        refine ax_getf (pc' := 99) fl_X7_103 Q_o rfl dX7_lay_96 rfl ?_
        exact ax_iret dX7_lay_99 rfl (Nat.le_of_ble_eq_true rfl) (Nat.le_of_ble_eq_true rfl) (⟨rfl, ⟨pq, pb, [], by omega, ⟨X_o, hB6, hbo, by omega⟩, hPa.on (fun q _ _ => G q (by omega) (by omega) (by omega)), hRd2.on (fun q _ _ => G q (by omega) (by omega) (by omega)), (hK'.on (τ := s4) (fun q _ _ => hF4.2 q (by omega))).on (τ := s5) (fun q _ _ => hF5.2 q (by omega)) |>.on (fun q _ _ => ax_kF h6' (by omega)), hY.on (fun q _ _ => G q (by omega) (by omega) (by omega)), hK1.any.on (fun q _ _ => G q (by omega) (by omega) (by omega)), hK2.any.on (fun q _ _ => G q (by omega) (by omega) (by omega)), (hT'.on (τ := s5) (fun q _ _ => hF5.2 q (by omega))).on (fun q _ _ => ax_kF h6' (by omega)), tr_ok_nil, hSg'.on (fun q _ _ => ax_kF h6' (by omega)), hG.on (fun q _ _ => G q (by omega) (by omega) (by omega)), hX2.2.1.choose_spec.1.any.on (fun q _ _ => G q (by have := hX2.2.2.2; omega) (by have := hX2.2.2.2; omega) (by have := hX2.2.2.2; omega))⟩, (ax_k2 h6').trans (hF5.1.trans (hF4.1.trans (hF3.1.trans (gn.trans hF.1)))), fun q hq => (G q (by omega) (by omega) (by omega)).trans (hF0.2 q hq)⟩)
theorem x_town (hx : xs_At σ.1 S) (hS : sp_Ok S) (v u : Int32) : ax_N mX7_town 8 0 0 [.ref 0, .int v, .int u] σ (xs_Po σ (o_town S v u)) := by
  have hx0 := hx
  obtain ⟨pb, pq, ts, hpp, hX, -⟩ := hx
  obtain ⟨X_o, ⟨fr, hB, hrd⟩, hb, hp⟩ := hX
  obtain ⟨fl, fn, fb, fk, fp, fu, B_o, B_lies, B_leans, B_bends, B_roads, B_kinds, B_paces, B_units, r1, r2, r3⟩ := id hB
  have h6 := hb.2.1
  refine ax_N.of (ls := [some (.ref 0), some (.int v), some (.int u)]) (by decide +kernel) rfl (Nat.le_of_ble_eq_true rfl) ?_
  refine ax_aload_n (pc' := 1) rfl dX7_town_0 rfl ?_
  refine ax_getf (pc' := 4) fl_X7_63 X_o rfl dX7_town_1 rfl ?_
  refine ax_iload_n (pc' := 5) rfl dX7_town_4 rfl ?_
  rcases sp_ix_cases v (n := S.2.1.2.1) (by omega) with ⟨t, ht, rfl, e1⟩ | ⟨hv, e1⟩
  · refine ax_callVR (pc' := 8) lv_X7_112 (c_isTownT hB h6 ht) B_o rfl rfl (Nat.le_of_ble_eq_true rfl) (Nat.le_of_ble_eq_true rfl) dX7_town_5 rfl ?_
    refine ax_if_ne (pc' := 11) (tgt := 13) dX7_town_8 (by decide) rfl (fun _ => ?_) (fun hz => absurd hz (kz_1))
    refine ax_iload_n (pc' := 14) rfl dX7_town_13 rfl ?_
    rcases sp_in_cases u (lo := 0) (hi := 1) (by decide) (by decide) with ⟨i, -, hi, rfl, e2⟩ | ⟨hu, e2⟩
    · obtain rfl | rfl : i = 0 ∨ i = 1 := by omega
      · refine ax_look (off := 26) (tgt := 40) dX7_town_14 (by decide) (by decide) (by decide) ?_
        refine ax_aload_n (pc' := 41) rfl dX7_town_40 rfl ?_
        refine ax_getf (pc' := 44) fl_X7_63 X_o rfl dX7_town_41 rfl ?_
        refine ax_getf (pc' := 47) fl_X7_116 B_o rfl dX7_town_44 rfl ?_
        refine ax_iload_n (pc' := 48) rfl dX7_town_47 rfl ?_
        refine ax_callSR (pc' := 51) ls_X7_120 (c_at B_lies (by omega) (by decide)) rfl rfl (Nat.le_of_ble_eq_true rfl) (Nat.le_of_ble_eq_true rfl) dX7_town_48 rfl ?_
        exact ax_iret dX7_town_51 rfl (Nat.le_of_ble_eq_true rfl) (Nat.le_of_ble_eq_true rfl) (⟨by simp [o_town, e1, e2, (r1 t ht).1], hx0, ax_fr.rf⟩)
      · refine ax_look (off := 38) (tgt := 52) dX7_town_14 (by decide) (by decide) (by decide) ?_
        refine ax_aload_n (pc' := 53) rfl dX7_town_52 rfl ?_
        refine ax_getf (pc' := 56) fl_X7_63 X_o rfl dX7_town_53 rfl ?_
        refine ax_iload_n (pc' := 57) rfl dX7_town_56 rfl ?_
        refine ax_callVR (pc' := 60) lv_X7_124 (c_shadow hB hb ht) B_o rfl rfl (Nat.le_of_ble_eq_true rfl) (Nat.le_of_ble_eq_true rfl) dX7_town_57 rfl ?_
        exact ax_iret dX7_town_60 rfl (Nat.le_of_ble_eq_true rfl) (Nat.le_of_ble_eq_true rfl) (⟨by simp [o_town, e1, e2], hx0, ax_fr.rf⟩)
    · refine ax_look (off := 47) (tgt := 61) dX7_town_14 (by decide) ?_ (by decide) ?_
      · show Op.lookupswitch.offset [(0, 26), (1, 38)] 47 u.toInt = 47
        rw [lv_osw (sp_out_ne (by decide) hu (j := 0) (by decide) (by decide)) (by decide), lv_osw (sp_out_ne (by decide) hu (j := 1) (by decide) (by decide)) (by decide)]
        rfl
      refine ax_iconst (pc' := 62) (v := (-1)) kc_m1 dX7_town_61 rfl ?_
      exact ax_iret dX7_town_62 rfl (Nat.le_of_ble_eq_true rfl) (Nat.le_of_ble_eq_true rfl) (⟨by simp [o_town, e1, e2], hx0, ax_fr.rf⟩)
  · refine ax_callVR (pc' := 8) lv_X7_112 (c_isTownF hB h6 hv) B_o rfl rfl (Nat.le_of_ble_eq_true rfl) (Nat.le_of_ble_eq_true rfl) dX7_town_5 rfl ?_
    refine ax_if_ne (pc' := 11) (tgt := 13) dX7_town_8 (by decide) rfl (fun hz => absurd (kz_0) hz) (fun _ => ?_)
    refine ax_iconst (pc' := 12) (v := (-1)) kc_m1 dX7_town_11 rfl ?_
    exact ax_iret dX7_town_12 rfl (Nat.le_of_ble_eq_true rfl) (Nat.le_of_ble_eq_true rfl) (⟨by simp [o_town, e1], hx0, ax_fr.rf⟩)
theorem x_between (hx : xs_At σ.1 S) (hS : sp_Ok S) (v u t : Int32) : ax_N mX7_between 8 0 0 [.ref 0, .int v, .int u, .int t] σ (xs_Po σ (o_between S v u t)) := by
  have hx0 := hx
  obtain ⟨pb, pq, ts, hpp, hX, -⟩ := hx
  obtain ⟨X_o, hBt, hb, hp⟩ := hX
  obtain ⟨fr, hB, hrd⟩ := id hBt
  have B_o : σ.1 pb = _ := hB.choose_spec.choose_spec.choose_spec.choose_spec.choose_spec.choose_spec.1
  have h6 := hb.2.1
  refine ax_N.of (ls := [some (.ref 0), some (.int v), some (.int u), some (.int t)]) (by decide +kernel) rfl (Nat.le_of_ble_eq_true rfl) ?_
  refine ax_aload_n (pc' := 1) rfl dX7_between_0 rfl ?_
  refine ax_getf (pc' := 4) fl_X7_63 X_o rfl dX7_between_1 rfl ?_
  refine ax_iload_n (pc' := 5) rfl dX7_between_4 rfl ?_
  refine ax_iload_n (pc' := 6) rfl dX7_between_5 rfl ?_
  rcases sp_two_cases v u (n := S.2.1.2.1) (by omega) with ⟨a, c, ha, hc, hac, rfl, rfl, e1⟩ | ⟨hv, e1⟩
  · refine ax_callVR (pc' := 9) lv_X7_128 (c_areTwoTownsT hB h6 ha hc hac) B_o rfl rfl (Nat.le_of_ble_eq_true rfl) (Nat.le_of_ble_eq_true rfl) dX7_between_6 rfl ?_
    refine ax_if_ne (pc' := 12) (tgt := 14) dX7_between_9 (by decide) rfl (fun _ => ?_) (fun hz => absurd hz (kz_1))
    refine ax_iload_n (pc' := 15) rfl dX7_between_14 rfl ?_
    rcases sp_in_cases t (lo := 0) (hi := 2) (by decide) (by decide) with ⟨i, -, hi, rfl, e2⟩ | ⟨hu, e2⟩
    · obtain rfl | rfl | rfl : i = 0 ∨ i = 1 ∨ i = 2 := by omega
      · refine ax_tabIn (off := 25) (tgt := 40) dX7_between_15 (by decide) (by decide) (by decide) (by decide) ?_
        refine ax_aload_n (pc' := 41) rfl dX7_between_40 rfl ?_
        refine ax_getf (pc' := 44) fl_X7_63 X_o rfl dX7_between_41 rfl ?_
        refine ax_iload_n (pc' := 45) rfl dX7_between_44 rfl ?_
        refine ax_iload_n (pc' := 46) rfl dX7_between_45 rfl ?_
        refine ax_callVR (pc' := 49) lv_X7_132 (c_straight hB hb ha hc) B_o rfl rfl (Nat.le_of_ble_eq_true rfl) (Nat.le_of_ble_eq_true rfl) dX7_between_46 rfl ?_
        exact ax_iret dX7_between_49 rfl (Nat.le_of_ble_eq_true rfl) (Nat.le_of_ble_eq_true rfl) (⟨by simp [o_between, e1, e2], hx0, ax_fr.rf⟩)
      · refine ax_tabIn (off := 35) (tgt := 50) dX7_between_15 (by decide) (by decide) (by decide) (by decide) ?_
        refine ax_aload_n (pc' := 51) rfl dX7_between_50 rfl ?_
        refine ax_getf (pc' := 54) fl_X7_63 X_o rfl dX7_between_51 rfl ?_
        refine ax_iload_n (pc' := 55) rfl dX7_between_54 rfl ?_
        refine ax_iload_n (pc' := 56) rfl dX7_between_55 rfl ?_
        refine ax_callVR (pc' := 59) lv_X7_136 (c_byRoad hBt hb ha hc) B_o rfl rfl (Nat.le_of_ble_eq_true rfl) (Nat.le_of_ble_eq_true rfl) dX7_between_56 rfl ?_
        exact ax_iret dX7_between_59 rfl (Nat.le_of_ble_eq_true rfl) (Nat.le_of_ble_eq_true rfl) (⟨by simp [o_between, e1, e2], hx0, ax_fr.rf⟩)
      · refine ax_tabIn (off := 45) (tgt := 60) dX7_between_15 (by decide) (by decide) (by decide) (by decide) ?_
        refine ax_aload_n (pc' := 61) rfl dX7_between_60 rfl ?_
        refine ax_getf (pc' := 64) fl_X7_63 X_o rfl dX7_between_61 rfl ?_
        refine ax_iload_n (pc' := 65) rfl dX7_between_64 rfl ?_
        refine ax_iload_n (pc' := 66) rfl dX7_between_65 rfl ?_
        refine ax_callVR (pc' := 69) lv_X7_139 (c_shadowsApart hB hb ha hc) B_o rfl rfl (Nat.le_of_ble_eq_true rfl) (Nat.le_of_ble_eq_true rfl) dX7_between_66 rfl ?_
        exact ax_iret dX7_between_69 rfl (Nat.le_of_ble_eq_true rfl) (Nat.le_of_ble_eq_true rfl) (⟨by simp [o_between, e1, e2], hx0, ax_fr.rf⟩)
    · refine ax_tabOut (tgt := 70) dX7_between_15 (sp_out (lo := 0) (hi := 2) (by decide) (by decide) hu) (by decide) ?_
      refine ax_iconst (pc' := 71) (v := (-1)) kc_m1 dX7_between_70 rfl ?_
      exact ax_iret dX7_between_71 rfl (Nat.le_of_ble_eq_true rfl) (Nat.le_of_ble_eq_true rfl) (⟨by simp [o_between, e1, e2], hx0, ax_fr.rf⟩)
  · refine ax_callVR (pc' := 9) lv_X7_128 (c_areTwoTownsF hB h6 hv) B_o rfl rfl (Nat.le_of_ble_eq_true rfl) (Nat.le_of_ble_eq_true rfl) dX7_between_6 rfl ?_
    refine ax_if_ne (pc' := 12) (tgt := 14) dX7_between_9 (by decide) rfl (fun hz => absurd (kz_0) hz) (fun _ => ?_)
    refine ax_iconst (pc' := 13) (v := (-1)) kc_m1 dX7_between_12 rfl ?_
    exact ax_iret dX7_between_13 rfl (Nat.le_of_ble_eq_true rfl) (Nat.le_of_ble_eq_true rfl) (⟨by simp [o_between, e1], hx0, ax_fr.rf⟩)
theorem x_walker (hx : xs_At σ.1 S) (hS : sp_Ok S) (v u : Int32) : ax_N mX7_walker 8 0 0 [.ref 0, .int v, .int u] σ (xs_Po σ (o_walker S v u)) := by
  have hx0 := hx
  obtain ⟨pb, pq, ts, hpp, hX, -⟩ := hx
  obtain ⟨X_o, ⟨fr, hB, hrd⟩, hb, hp⟩ := hX
  obtain ⟨fl, fn, fb, fk, fp, fu, B_o, B_lies, B_leans, B_bends, B_roads, B_kinds, B_paces, B_units, r1, r2, r3⟩ := id hB
  have h4 := hb.2.2.1
  refine ax_N.of (ls := [some (.ref 0), some (.int v), some (.int u)]) (by decide +kernel) rfl (Nat.le_of_ble_eq_true rfl) ?_
  refine ax_aload_n (pc' := 1) rfl dX7_walker_0 rfl ?_
  refine ax_getf (pc' := 4) fl_X7_63 X_o rfl dX7_walker_1 rfl ?_
  refine ax_iload_n (pc' := 5) rfl dX7_walker_4 rfl ?_
  rcases sp_ix_cases v (n := S.2.1.2.2.1) (by omega) with ⟨w, hw, rfl, e1⟩ | ⟨hv, e1⟩
  · refine ax_callVR (pc' := 8) lv_X7_142 (c_isWalkerT hB h4 hw) B_o rfl rfl (Nat.le_of_ble_eq_true rfl) (Nat.le_of_ble_eq_true rfl) dX7_walker_5 rfl ?_
    refine ax_if_ne (pc' := 11) (tgt := 13) dX7_walker_8 (by decide) rfl (fun _ => ?_) (fun hz => absurd hz (kz_1))
    refine ax_iload_n (pc' := 14) rfl dX7_walker_13 rfl ?_
    rcases sp_in_cases u (lo := 0) (hi := 2) (by decide) (by decide) with ⟨i, -, hi, rfl, e2⟩ | ⟨hu, e2⟩
    · obtain rfl | rfl | rfl : i = 0 ∨ i = 1 ∨ i = 2 := by omega
      · refine ax_tabIn (off := 26) (tgt := 40) dX7_walker_14 (by decide) (by decide) (by decide) (by decide) ?_
        refine ax_aload_n (pc' := 41) rfl dX7_walker_40 rfl ?_
        refine ax_getf (pc' := 44) fl_X7_63 X_o rfl dX7_walker_41 rfl ?_
        refine ax_getf (pc' := 47) fl_X7_145 B_o rfl dX7_walker_44 rfl ?_
        refine ax_iload_n (pc' := 48) rfl dX7_walker_47 rfl ?_
        refine ax_callSR (pc' := 51) ls_X7_120 (c_at B_kinds (by omega) (by decide)) rfl rfl (Nat.le_of_ble_eq_true rfl) (Nat.le_of_ble_eq_true rfl) dX7_walker_48 rfl ?_
        exact ax_iret dX7_walker_51 rfl (Nat.le_of_ble_eq_true rfl) (Nat.le_of_ble_eq_true rfl) (⟨by simp [o_walker, e1, e2, (r3 w hw).1], hx0, ax_fr.rf⟩)
      · refine ax_tabIn (off := 38) (tgt := 52) dX7_walker_14 (by decide) (by decide) (by decide) (by decide) ?_
        refine ax_aload_n (pc' := 53) rfl dX7_walker_52 rfl ?_
        refine ax_getf (pc' := 56) fl_X7_63 X_o rfl dX7_walker_53 rfl ?_
        refine ax_getf (pc' := 59) fl_X7_148 B_o rfl dX7_walker_56 rfl ?_
        refine ax_iload_n (pc' := 60) rfl dX7_walker_59 rfl ?_
        refine ax_callSR (pc' := 63) ls_X7_120 (c_at B_paces (by omega) (by decide)) rfl rfl (Nat.le_of_ble_eq_true rfl) (Nat.le_of_ble_eq_true rfl) dX7_walker_60 rfl ?_
        exact ax_iret dX7_walker_63 rfl (Nat.le_of_ble_eq_true rfl) (Nat.le_of_ble_eq_true rfl) (⟨by simp [o_walker, e1, e2, (r3 w hw).2.1], hx0, ax_fr.rf⟩)
      · refine ax_tabIn (off := 50) (tgt := 64) dX7_walker_14 (by decide) (by decide) (by decide) (by decide) ?_
        refine ax_aload_n (pc' := 65) rfl dX7_walker_64 rfl ?_
        refine ax_getf (pc' := 68) fl_X7_63 X_o rfl dX7_walker_65 rfl ?_
        refine ax_getf (pc' := 71) fl_X7_151 B_o rfl dX7_walker_68 rfl ?_
        refine ax_iload_n (pc' := 72) rfl dX7_walker_71 rfl ?_
        refine ax_callSR (pc' := 75) ls_X7_120 (c_at B_units (by omega) (by decide)) rfl rfl (Nat.le_of_ble_eq_true rfl) (Nat.le_of_ble_eq_true rfl) dX7_walker_72 rfl ?_
        exact ax_iret dX7_walker_75 rfl (Nat.le_of_ble_eq_true rfl) (Nat.le_of_ble_eq_true rfl) (⟨by simp [o_walker, e1, e2, (r3 w hw).2.2], hx0, ax_fr.rf⟩)
    · refine ax_tabOut (tgt := 76) dX7_walker_14 (sp_out (lo := 0) (hi := 2) (by decide) (by decide) hu) (by decide) ?_
      refine ax_iconst (pc' := 77) (v := (-1)) kc_m1 dX7_walker_76 rfl ?_
      exact ax_iret dX7_walker_77 rfl (Nat.le_of_ble_eq_true rfl) (Nat.le_of_ble_eq_true rfl) (⟨by simp [o_walker, e1, e2], hx0, ax_fr.rf⟩)
  · refine ax_callVR (pc' := 8) lv_X7_142 (c_isWalkerF hB h4 hv) B_o rfl rfl (Nat.le_of_ble_eq_true rfl) (Nat.le_of_ble_eq_true rfl) dX7_walker_5 rfl ?_
    refine ax_if_ne (pc' := 11) (tgt := 13) dX7_walker_8 (by decide) rfl (fun hz => absurd (kz_0) hz) (fun _ => ?_)
    refine ax_iconst (pc' := 12) (v := (-1)) kc_m1 dX7_walker_11 rfl ?_
    exact ax_iret dX7_walker_12 rfl (Nat.le_of_ble_eq_true rfl) (Nat.le_of_ble_eq_true rfl) (⟨by simp [o_walker, e1], hx0, ax_fr.rf⟩)
theorem x_report (hx : xs_At σ.1 S) (hS : sp_Ok S) (v u : Int32) : ax_N mX7_report 8 0 0 [.ref 0, .int v, .int u] σ (xs_Po σ (o_report S v u)) := by
  have hx0 := hx
  obtain ⟨pb, pq, ts, hpp, hX, hPa, hRd, hK, -⟩ := hx
  have X_o := hX.1
  have hk := hS.2.2.2.1
  have h9 := hk.1
  obtain ⟨gw, gf, gt, gs, K_o, K_who, K_from, K_to, K_stadia, hg⟩ := id hK
  refine ax_N.of (ls := [some (.ref 0), some (.int v), some (.int u)]) (by decide +kernel) rfl (Nat.le_of_ble_eq_true rfl) ?_
  refine ax_aload_n (pc' := 1) rfl dX7_report_0 rfl ?_
  refine ax_getf (pc' := 4) fl_X7_26 X_o rfl dX7_report_1 rfl ?_
  refine ax_iload_n (pc' := 5) rfl dX7_report_4 rfl ?_
  rcases sp_ix_cases v (n := S.2.2.1.1.length) (by omega) with ⟨r, hr, rfl, e1⟩ | ⟨hv, e1⟩
  · obtain ⟨g0, g1, g2, g3⟩ := hg r hr
    refine ax_callVR (pc' := 8) lv_X7_154 (c_hasT hK h9 hr) K_o rfl rfl (Nat.le_of_ble_eq_true rfl) (Nat.le_of_ble_eq_true rfl) dX7_report_5 rfl ?_
    refine ax_if_ne (pc' := 11) (tgt := 13) dX7_report_8 (by decide) rfl (fun _ => ?_) (fun hz => absurd hz (kz_1))
    refine ax_iload_n (pc' := 14) rfl dX7_report_13 rfl ?_
    rcases sp_in_cases u (lo := 0) (hi := 6) (by decide) (by decide) with ⟨i, -, hi, rfl, e2⟩ | ⟨hu, e2⟩
    · obtain rfl | rfl | rfl | rfl | rfl | rfl | rfl : i = 0 ∨ i = 1 ∨ i = 2 ∨ i = 3 ∨ i = 4 ∨ i = 5 ∨ i = 6 := by omega
      · refine ax_tabIn (off := 42) (tgt := 56) dX7_report_14 (by decide) (by decide) (by decide) (by decide) ?_
        refine ax_aload_n (pc' := 57) rfl dX7_report_56 rfl ?_
        refine ax_getf (pc' := 60) fl_X7_26 X_o rfl dX7_report_57 rfl ?_
        refine ax_getf (pc' := 63) fl_X7_157 K_o rfl dX7_report_60 rfl ?_
        refine ax_iload_n (pc' := 64) rfl dX7_report_63 rfl ?_
        refine ax_callSR (pc' := 67) ls_X7_120 (c_at K_who (by omega) (by decide)) rfl rfl (Nat.le_of_ble_eq_true rfl) (Nat.le_of_ble_eq_true rfl) dX7_report_64 rfl ?_
        exact ax_iret dX7_report_67 rfl (Nat.le_of_ble_eq_true rfl) (Nat.le_of_ble_eq_true rfl) (⟨by simp [o_report, e1, e2, sp_rp, g0], hx0, ax_fr.rf⟩)
      · refine ax_tabIn (off := 54) (tgt := 68) dX7_report_14 (by decide) (by decide) (by decide) (by decide) ?_
        refine ax_aload_n (pc' := 69) rfl dX7_report_68 rfl ?_
        refine ax_getf (pc' := 72) fl_X7_26 X_o rfl dX7_report_69 rfl ?_
        refine ax_getf (pc' := 75) fl_X7_160 K_o rfl dX7_report_72 rfl ?_
        refine ax_iload_n (pc' := 76) rfl dX7_report_75 rfl ?_
        refine ax_callSR (pc' := 79) ls_X7_120 (c_at K_from (by omega) (by decide)) rfl rfl (Nat.le_of_ble_eq_true rfl) (Nat.le_of_ble_eq_true rfl) dX7_report_76 rfl ?_
        exact ax_iret dX7_report_79 rfl (Nat.le_of_ble_eq_true rfl) (Nat.le_of_ble_eq_true rfl) (⟨by simp [o_report, e1, e2, sp_rp, g1], hx0, ax_fr.rf⟩)
      · refine ax_tabIn (off := 66) (tgt := 80) dX7_report_14 (by decide) (by decide) (by decide) (by decide) ?_
        refine ax_aload_n (pc' := 81) rfl dX7_report_80 rfl ?_
        refine ax_getf (pc' := 84) fl_X7_26 X_o rfl dX7_report_81 rfl ?_
        refine ax_getf (pc' := 87) fl_X7_163 K_o rfl dX7_report_84 rfl ?_
        refine ax_iload_n (pc' := 88) rfl dX7_report_87 rfl ?_
        refine ax_callSR (pc' := 91) ls_X7_120 (c_at K_to (by omega) (by decide)) rfl rfl (Nat.le_of_ble_eq_true rfl) (Nat.le_of_ble_eq_true rfl) dX7_report_88 rfl ?_
        exact ax_iret dX7_report_91 rfl (Nat.le_of_ble_eq_true rfl) (Nat.le_of_ble_eq_true rfl) (⟨by simp [o_report, e1, e2, sp_rp, g2], hx0, ax_fr.rf⟩)
      · refine ax_tabIn (off := 78) (tgt := 92) dX7_report_14 (by decide) (by decide) (by decide) (by decide) ?_
        refine ax_aload_n (pc' := 93) rfl dX7_report_92 rfl ?_
        refine ax_getf (pc' := 96) fl_X7_26 X_o rfl dX7_report_93 rfl ?_
        refine ax_getf (pc' := 99) fl_X7_166 K_o rfl dX7_report_96 rfl ?_
        refine ax_iload_n (pc' := 100) rfl dX7_report_99 rfl ?_
        refine ax_callSR (pc' := 103) ls_X7_120 (c_at K_stadia (by omega) (by decide)) rfl rfl (Nat.le_of_ble_eq_true rfl) (Nat.le_of_ble_eq_true rfl) dX7_report_100 rfl ?_
        exact ax_iret dX7_report_103 rfl (Nat.le_of_ble_eq_true rfl) (Nat.le_of_ble_eq_true rfl) (⟨by simp [o_report, e1, e2, sp_rp, g3], hx0, ax_fr.rf⟩)
      · refine ax_tabIn (off := 90) (tgt := 104) dX7_report_14 (by decide) (by decide) (by decide) (by decide) ?_
        refine ax_aload_n (pc' := 105) rfl dX7_report_104 rfl ?_
        refine ax_iload_n (pc' := 106) rfl dX7_report_105 rfl ?_
        refine ax_callVR (pc' := 109) lv_X7_169 (c_girthBy hX hK hk hr) X_o rfl rfl (Nat.le_of_ble_eq_true rfl) (Nat.le_of_ble_eq_true rfl) dX7_report_106 rfl ?_
        exact ax_iret dX7_report_109 rfl (Nat.le_of_ble_eq_true rfl) (Nat.le_of_ble_eq_true rfl) (⟨by simp [o_report, e1, e2, sp_rp], hx0, ax_fr.rf⟩)
      · refine ax_tabIn (off := 96) (tgt := 110) dX7_report_14 (by decide) (by decide) (by decide) (by decide) ?_
        refine ax_aload_n (pc' := 111) rfl dX7_report_110 rfl ?_
        refine ax_iload_n (pc' := 112) rfl dX7_report_111 rfl ?_
        refine ax_callVR (pc' := 115) lv_X7_172 (c_leastBy hX hK hk hr) X_o rfl rfl (Nat.le_of_ble_eq_true rfl) (Nat.le_of_ble_eq_true rfl) dX7_report_112 rfl ?_
        exact ax_iret dX7_report_115 rfl (Nat.le_of_ble_eq_true rfl) (Nat.le_of_ble_eq_true rfl) (⟨by simp [o_report, e1, e2, sp_rp], hx0, ax_fr.rf⟩)
      · refine ax_tabIn (off := 102) (tgt := 116) dX7_report_14 (by decide) (by decide) (by decide) (by decide) ?_
        refine ax_aload_n (pc' := 117) rfl dX7_report_116 rfl ?_
        refine ax_iload_n (pc' := 118) rfl dX7_report_117 rfl ?_
        refine ax_callVR (pc' := 121) lv_X7_175 (c_mostBy hX hK hk hr) X_o rfl rfl (Nat.le_of_ble_eq_true rfl) (Nat.le_of_ble_eq_true rfl) dX7_report_118 rfl ?_
        exact ax_iret dX7_report_121 rfl (Nat.le_of_ble_eq_true rfl) (Nat.le_of_ble_eq_true rfl) (⟨by simp [o_report, e1, e2, sp_rp], hx0, ax_fr.rf⟩)
    · refine ax_tabOut (tgt := 122) dX7_report_14 (sp_out (lo := 0) (hi := 6) (by decide) (by decide) hu) (by decide) ?_
      refine ax_iconst (pc' := 123) (v := (-1)) kc_m1 dX7_report_122 rfl ?_
      exact ax_iret dX7_report_123 rfl (Nat.le_of_ble_eq_true rfl) (Nat.le_of_ble_eq_true rfl) (⟨by simp [o_report, e1, e2], hx0, ax_fr.rf⟩)
  · refine ax_callVR (pc' := 8) lv_X7_154 (c_hasF hK h9 hv) K_o rfl rfl (Nat.le_of_ble_eq_true rfl) (Nat.le_of_ble_eq_true rfl) dX7_report_5 rfl ?_
    refine ax_if_ne (pc' := 11) (tgt := 13) dX7_report_8 (by decide) rfl (fun hz => absurd (kz_0) hz) (fun _ => ?_)
    refine ax_iconst (pc' := 12) (v := (-1)) kc_m1 dX7_report_11 rfl ?_
    exact ax_iret dX7_report_12 rfl (Nat.le_of_ble_eq_true rfl) (Nat.le_of_ble_eq_true rfl) (⟨by simp [o_report, e1], hx0, ax_fr.rf⟩)
theorem x_walk (hx : xs_At σ.1 S) (hS : sp_Ok S) (v u t : Int32) : ax_N mX7_walk 8 0 0 [.ref 0, .int v, .int u, .int t] σ (xs_Po σ (o_walk S v u t)) := by
  have hx0 := hx
  obtain ⟨pb, pq, ts, hpp, hX, hPa, hRd, hK, hY, hK1, hK2, hT, hto, hSg, hG, hQ⟩ := hx
  have X_o := hX.1
  obtain ⟨-, ⟨fr, hB, hrd⟩, hb, hp⟩ := id hX
  have B_o : σ.1 pb = _ := hB.choose_spec.choose_spec.choose_spec.choose_spec.choose_spec.choose_spec.1
  have K_o : σ.1 5 = _ := hK.choose_spec.choose_spec.choose_spec.choose_spec.1
  have hk := hS.2.2.2.1
  have h9 := hk.1
  have h6 := hb.2.1
  have h4 := hb.2.2.1
  refine ax_N.of (ls := [some (.ref 0), some (.int v), some (.int u), some (.int t)]) (by decide +kernel) rfl (Nat.le_of_ble_eq_true rfl) ?_
  have NO : ∀ zz, o_walk S v u t = (-1, S) → ax_J (mX7_walk, 8, 0, 0) 0 0 23 zz [] σ (xs_Po σ (o_walk S v u t)) := by
    intro zz ho
    rw [ho]
    refine ax_iconst (pc' := 24) (v := (-1)) kc_m1 dX7_walk_23 rfl ?_
    exact ax_iret dX7_walk_24 rfl (Nat.le_of_ble_eq_true rfl) (Nat.le_of_ble_eq_true rfl) (⟨rfl, hx0, ax_fr.rf⟩)
  refine ax_aload_n (pc' := 1) rfl dX7_walk_0 rfl ?_
  refine ax_getf (pc' := 4) fl_X7_63 X_o rfl dX7_walk_1 rfl ?_
  refine ax_iload_n (pc' := 5) rfl dX7_walk_4 rfl ?_
  rcases sp_ix_cases v (n := S.2.1.2.2.1) (by omega) with ⟨w, hw, rfl, e1⟩ | ⟨hv, e1⟩
  · refine ax_callVR (pc' := 8) lv_X7_142 (c_isWalkerT hB h4 hw) B_o rfl rfl (Nat.le_of_ble_eq_true rfl) (Nat.le_of_ble_eq_true rfl) dX7_walk_5 rfl ?_
    refine ax_if_eq (pc' := 11) (tgt := 23) dX7_walk_8 (by decide) rfl (fun hz => absurd hz (kz_1)) (fun _ => ?_)
    refine ax_aload_n (pc' := 12) rfl dX7_walk_11 rfl ?_
    refine ax_getf (pc' := 15) fl_X7_63 X_o rfl dX7_walk_12 rfl ?_
    refine ax_iload_n (pc' := 16) rfl dX7_walk_15 rfl ?_
    refine ax_iload_n (pc' := 17) rfl dX7_walk_16 rfl ?_
    rcases sp_two_cases u t (n := S.2.1.2.1) (by omega) with ⟨a, c, ha, hc, hac, rfl, rfl, e2⟩ | ⟨hv, e2⟩
    · refine ax_callVR (pc' := 20) lv_X7_128 (c_areTwoTownsT hB h6 ha hc hac) B_o rfl rfl (Nat.le_of_ble_eq_true rfl) (Nat.le_of_ble_eq_true rfl) dX7_walk_17 rfl ?_
      refine ax_if_ne (pc' := 23) (tgt := 25) dX7_walk_20 (by decide) rfl (fun _ => ?_) (fun hz => absurd hz (kz_1))
      refine ax_aload_n (pc' := 26) rfl dX7_walk_25 rfl ?_
      refine ax_getf (pc' := 29) fl_X7_26 X_o rfl dX7_walk_26 rfl ?_
      refine ax_getf (pc' := 32) fl_X7_178 K_o rfl dX7_walk_29 rfl ?_
      refine ax_bipush (pc' := 34) (v := (nI 9)) kb_9 dX7_walk_32 rfl ?_
      by_cases hl : S.2.2.1.1.length < 9
      · obtain ⟨q, hq⟩ : ∃ q, q = sp_wk S.2.1 S.2.2.1.1 w a c := ⟨_, rfl⟩
        have ho : o_walk S (nI w) (nI a) (nI c) = (nI q.2.2.2, (S.1, S.2.1, (S.2.2.1.1 ++ [q], S.2.2.1.2 + sp_days S.2.1 w a c), sp_mk S.2.2.2.1 ++ [S.2.2.1], S.2.2.2.2)) := by simp [o_walk, e1, e2, hl, hq]
        rw [ho]
        refine ax_icmp_lt (pc' := 37) (tgt := 40) dX7_walk_34 (by decide) rfl (fun _ => ?_) (fun hz => absurd (nI_lt hl (by decide)) hz)
        refine ax_aload_n (pc' := 41) rfl dX7_walk_40 rfl ?_
        refine ax_aload_n (pc' := 42) rfl dX7_walk_41 rfl ?_
        refine ax_getf (pc' := 45) fl_X7_26 X_o rfl dX7_walk_42 rfl ?_
        refine ax_iload_n (pc' := 46) rfl dX7_walk_45 rfl ?_
        refine ax_iload_n (pc' := 47) rfl dX7_walk_46 rfl ?_
        refine ax_iload_n (pc' := 48) rfl dX7_walk_47 rfl ?_
        refine ax_callVG (pc' := 51) lv_X7_181 (c_goWalking hX hK hk hl hw ha hc (by omega) (by omega)) X_o rfl rfl (Nat.le_of_ble_eq_true rfl) (Nat.le_of_ble_eq_true rfl) dX7_walk_48 rfl (fun r σ' hr => ?_)
        obtain ⟨rfl, hKn, hF⟩ := hr
        have hX' := hX.fr hF (by omega) (by omega)
        have X_o := hX'.1
        have hT' := hT.fr hF (by omega)
        have T_o : σ'.1 25 = _ := hT'.choose_spec.choose_spec.choose_spec.choose_spec.choose_spec.choose_spec.1
        have B_o := hF.at B_o (by omega)
        refine ax_aload_n (pc' := 52) rfl dX7_walk_51 rfl ?_
        refine ax_getf (pc' := 55) fl_X7_42 X_o rfl dX7_walk_52 rfl ?_
        refine ax_aload_n (pc' := 56) rfl dX7_walk_55 rfl ?_
        refine ax_getf (pc' := 59) fl_X7_63 X_o rfl dX7_walk_56 rfl ?_
        refine ax_iload_n (pc' := 60) rfl dX7_walk_59 rfl ?_
        refine ax_iload_n (pc' := 61) rfl dX7_walk_60 rfl ?_
        refine ax_iload_n (pc' := 62) rfl dX7_walk_61 rfl ?_
        refine ax_callVR (pc' := 65) lv_X7_185 (c_daysOf hX'.2.1 hb hw ha hc) B_o rfl rfl (Nat.le_of_ble_eq_true rfl) (Nat.le_of_ble_eq_true rfl) dX7_walk_62 rfl ?_
        have h8 := hS.2.2.2.2.1
        refine ax_callVG (pc' := 68) lv_X7_189 (c_rememberWalk hT' (by rw [hto.1]; exact h8)) T_o rfl rfl (Nat.le_of_ble_eq_true rfl) (Nat.le_of_ble_eq_true rfl) dX7_walk_65 rfl (fun r2' s2 hr2 => ?_)
        obtain ⟨rfl, hT2, hF2⟩ := hr2
        have X_o := hF2.at X_o (by omega)
        have hK3 := hKn.fr hF2 (by omega)
        obtain ⟨gw, gf, gt, gs, K_o, K_who, K_from, K_to, K_stadia, hg⟩ := id hK3
        have hlen : (S.2.2.1.1 ++ [sp_wk S.2.1 S.2.2.1.1 w a c]).length = S.2.2.1.1.length + 1 := by simp
        refine ax_aload_n (pc' := 69) rfl dX7_walk_68 rfl ?_
        refine ax_getf (pc' := 72) fl_X7_26 X_o rfl dX7_walk_69 rfl ?_
        refine ax_getf (pc' := 75) fl_X7_166 K_o rfl dX7_walk_72 rfl ?_
        refine ax_aload_n (pc' := 76) rfl dX7_walk_75 rfl ?_
        refine ax_getf (pc' := 79) fl_X7_26 X_o rfl dX7_walk_76 rfl ?_
        refine ax_getf (pc' := 82) fl_X7_178 K_o rfl dX7_walk_79 rfl ?_
        refine ax_iconst (pc' := 83) (v := (nI 1)) kc_1 dX7_walk_82 rfl ?_
        refine ax_isub (pc' := 84) dX7_walk_83 rfl ?_
        refine ax_topi (v' := nI S.2.2.1.1.length) (by rw [hlen]; exact nI_pred _) ?_
        refine ax_callSR (pc' := 87) ls_X7_120 (c_at K_stadia (by omega) (by decide)) rfl rfl (Nat.le_of_ble_eq_true rfl) (Nat.le_of_ble_eq_true rfl) dX7_walk_84 rfl ?_
        have hge := (hg S.2.2.1.1.length (by omega)).2.2.2
        rw [sp_at_snoc (by simp), if_pos rfl] at hge
        have g1 : ∀ z, (z < 5 ∨ 10 ≤ z) → (z < 25 ∨ 32 ≤ z) → s2.1 z = σ.1 z := fun z a1 a2 => (hF2.2 z (by omega)).trans (hF.2 z (by omega))
        exact ax_iret dX7_walk_87 rfl (Nat.le_of_ble_eq_true rfl) (Nat.le_of_ble_eq_true rfl) (⟨by rw [hge, hq], ⟨pb, pq, _, hpp, hX.on (g1 0 (by omega) (by omega)) (fun z _ _ => g1 z (by omega) (by omega)), hPa.on (fun z _ _ => g1 z (by omega) (by omega)), hRd.on (fun z _ _ => g1 z (by omega) (by omega)), by rw [hq]; exact hK3, hY.on (fun z _ _ => g1 z (by omega) (by omega)), hK1.on (fun z _ _ => g1 z (by omega) (by omega)), hK2.on (fun z _ _ => g1 z (by omega) (by omega)), hT2, tr_ok_push hto ⟨⟨q, rfl⟩, rfl⟩, hSg.on (fun z _ _ => g1 z (by omega) (by omega)), hG.on (fun z _ _ => g1 z (by omega) (by omega)), hQ.on (fun z _ _ => g1 z (by omega) (by omega))⟩, hF2.1.trans hF.1, fun z hz => g1 z (by omega) (by omega)⟩)
      · have ho : o_walk S (nI w) (nI a) (nI c) = (-3, S) := by simp [o_walk, e1, e2, hl]
        rw [ho]
        refine ax_icmp_lt (pc' := 37) (tgt := 40) dX7_walk_34 (by decide) rfl (fun hz => absurd hz (nI_nlt (by omega) (by omega))) (fun _ => ?_)
        refine ax_bipush (pc' := 39) (v := (-3)) kb_m3 dX7_walk_37 rfl ?_
        exact ax_iret dX7_walk_39 rfl (Nat.le_of_ble_eq_true rfl) (Nat.le_of_ble_eq_true rfl) (⟨rfl, hx0, ax_fr.rf⟩)
    · refine ax_callVR (pc' := 20) lv_X7_128 (c_areTwoTownsF hB h6 hv) B_o rfl rfl (Nat.le_of_ble_eq_true rfl) (Nat.le_of_ble_eq_true rfl) dX7_walk_17 rfl ?_
      refine ax_if_ne (pc' := 23) (tgt := 25) dX7_walk_20 (by decide) rfl (fun hz => absurd (kz_0) hz) (fun _ => ?_)
      exact NO _ (by simp [o_walk, e1, e2])
  · refine ax_callVR (pc' := 8) lv_X7_142 (c_isWalkerF hB h4 hv) B_o rfl rfl (Nat.le_of_ble_eq_true rfl) (Nat.le_of_ble_eq_true rfl) dX7_walk_5 rfl ?_
    refine ax_if_eq (pc' := 11) (tgt := 23) dX7_walk_8 (by decide) rfl (fun _ => ?_) (fun hz => absurd (kz_0) hz)
    exact NO _ (by simp [o_walk, e1])
theorem x_strike (hx : xs_At σ.1 S) (hS : sp_Ok S) (v : Int32) : ax_N mX7_strike 8 0 0 [.ref 0, .int v] σ (xs_Po σ (o_strike S v)) := by
  have hx0 := hx
  obtain ⟨pb, pq, ts, hpp, hX, hPa, hRd, hK, hY, hK1, hK2, hT, hto, hSg, hG, hQ⟩ := hx
  have X_o := hX.1
  have hp := hX.2.2.2
  have K_o : σ.1 5 = _ := hK.choose_spec.choose_spec.choose_spec.choose_spec.1
  have hk := hS.2.2.2.1
  have h9 := hk.1
  refine ax_N.of (ls := [some (.ref 0), some (.int v)]) (by decide +kernel) rfl (Nat.le_of_ble_eq_true rfl) ?_
  refine ax_aload_n (pc' := 1) rfl dX7_strike_0 rfl ?_
  refine ax_getf (pc' := 4) fl_X7_26 X_o rfl dX7_strike_1 rfl ?_
  refine ax_iload_n (pc' := 5) rfl dX7_strike_4 rfl ?_
  rcases sp_ix_cases v (n := S.2.2.1.1.length) (by omega) with ⟨r, hr, rfl, e1⟩ | ⟨hv, e1⟩
  · have ho : o_strike S (nI r) = (nI (S.2.2.1.1.length - 1), (S.1, S.2.1, (sp_del S.2.2.1.1 r, S.2.2.1.2), sp_mk S.2.2.2.1 ++ [S.2.2.1], S.2.2.2.2)) := by simp [o_strike, e1]
    rw [ho]
    have h8 := hS.2.2.2.2.1
    have T_o : σ.1 25 = _ := hT.choose_spec.choose_spec.choose_spec.choose_spec.choose_spec.choose_spec.1
    refine ax_callVR (pc' := 8) lv_X7_154 (c_hasT hK h9 hr) K_o rfl rfl (Nat.le_of_ble_eq_true rfl) (Nat.le_of_ble_eq_true rfl) dX7_strike_5 rfl ?_
    refine ax_if_ne (pc' := 11) (tgt := 13) dX7_strike_8 (by decide) rfl (fun _ => ?_) (fun hz => absurd hz (kz_1))
    refine ax_aload_n (pc' := 14) rfl dX7_strike_13 rfl ?_
    refine ax_getf (pc' := 17) fl_X7_42 X_o rfl dX7_strike_14 rfl ?_
    refine ax_aload_n (pc' := 18) rfl dX7_strike_17 rfl ?_
    refine ax_getf (pc' := 21) fl_X7_26 X_o rfl dX7_strike_18 rfl ?_
    refine ax_iload_n (pc' := 22) rfl dX7_strike_21 rfl ?_
    refine ax_callVG (pc' := 25) lv_X7_192 (c_rememberStriking hT (by rw [hto.1]; exact h8) hK h9 hr (by omega)) T_o rfl rfl (Nat.le_of_ble_eq_true rfl) (Nat.le_of_ble_eq_true rfl) dX7_strike_22 rfl (fun r2' s2 hr2 => ?_)
    obtain ⟨rfl, hT2, hF⟩ := hr2
    have X_o := hF.at X_o (by omega)
    have hKa := hK.fr hF (by omega)
    have K_o : s2.1 5 = _ := hKa.choose_spec.choose_spec.choose_spec.choose_spec.1
    refine ax_aload_n (pc' := 26) rfl dX7_strike_25 rfl ?_
    refine ax_getf (pc' := 29) fl_X7_26 X_o rfl dX7_strike_26 rfl ?_
    refine ax_iload_n (pc' := 30) rfl dX7_strike_29 rfl ?_
    refine ax_callVG (pc' := 33) lv_X7_196 (c_removeAt hKa h9 hr) K_o rfl rfl (Nat.le_of_ble_eq_true rfl) (Nat.le_of_ble_eq_true rfl) dX7_strike_30 rfl (fun r3' s3 hr3 => ?_)
    obtain ⟨rfl, hKb, hF2⟩ := hr3
    have X_o := hF2.at X_o (by omega)
    have K_o : s3.1 5 = _ := hKb.choose_spec.choose_spec.choose_spec.choose_spec.1
    refine ax_aload_n (pc' := 34) rfl dX7_strike_33 rfl ?_
    refine ax_getf (pc' := 37) fl_X7_26 X_o rfl dX7_strike_34 rfl ?_
    refine ax_getf (pc' := 40) fl_X7_178 K_o rfl dX7_strike_37 rfl ?_
    have g1 : ∀ z, (z < 5 ∨ 10 ≤ z) → (z < 25 ∨ 32 ≤ z) → s3.1 z = σ.1 z := fun z a1 a2 => (hF2.2 z (by omega)).trans (hF.2 z (by omega))
    exact ax_iret dX7_strike_40 rfl (Nat.le_of_ble_eq_true rfl) (Nat.le_of_ble_eq_true rfl) (⟨by rw [sp_del_len hr], ⟨pb, pq, _, hpp, hX.on (g1 0 (by omega) (by omega)) (fun z _ _ => g1 z (by omega) (by omega)), hPa.on (fun z _ _ => g1 z (by omega) (by omega)), hRd.on (fun z _ _ => g1 z (by omega) (by omega)), hKb, hY.on (fun z _ _ => g1 z (by omega) (by omega)), hK1.on (fun z _ _ => g1 z (by omega) (by omega)), hK2.on (fun z _ _ => g1 z (by omega) (by omega)), hT2.on (fun z _ _ => hF2.2 z (by omega)), tr_ok_push hto ⟨hr, rfl, rfl, rfl⟩, hSg.on (fun z _ _ => g1 z (by omega) (by omega)), hG.on (fun z _ _ => g1 z (by omega) (by omega)), hQ.on (fun z _ _ => g1 z (by omega) (by omega))⟩, hF2.1.trans hF.1, fun z hz => g1 z (by omega) (by omega)⟩)
  · have ho : o_strike S v = (-1, S) := by simp [o_strike, e1]
    rw [ho]
    refine ax_callVR (pc' := 8) lv_X7_154 (c_hasF hK h9 hv) K_o rfl rfl (Nat.le_of_ble_eq_true rfl) (Nat.le_of_ble_eq_true rfl) dX7_strike_5 rfl ?_
    refine ax_if_ne (pc' := 11) (tgt := 13) dX7_strike_8 (by decide) rfl (fun hz => absurd (kz_0) hz) (fun _ => ?_)
    refine ax_iconst (pc' := 12) (v := (-1)) kc_m1 dX7_strike_11 rfl ?_
    exact ax_iret dX7_strike_12 rfl (Nat.le_of_ble_eq_true rfl) (Nat.le_of_ble_eq_true rfl) (⟨rfl, hx0, ax_fr.rf⟩)
theorem x_undo (hx : xs_At σ.1 S) (hS : sp_Ok S) : ax_N mX7_undo 8 0 0 [.ref 0] σ (xs_Po σ (o_undo S)) := by
  have hx0 := hx
  obtain ⟨pb, pq, ts, hpp, hX, hPa, hRd, hK, hY, hK1, hK2, hT, hto, hSg, hG, hQ⟩ := hx
  have X_o := hX.1
  have hp := hX.2.2.2
  have T_o : σ.1 25 = _ := hT.choose_spec.choose_spec.choose_spec.choose_spec.choose_spec.choose_spec.1
  have h8 := hS.2.2.2.2.1
  refine ax_N.of (ls := [some (.ref 0)]) (by decide +kernel) rfl (Nat.le_of_ble_eq_true rfl) ?_
  refine ax_aload_n (pc' := 1) rfl dX7_undo_0 rfl ?_
  refine ax_getf (pc' := 4) fl_X7_42 X_o rfl dX7_undo_1 rfl ?_
  refine ax_getf (pc' := 7) fl_X7_199 T_o rfl dX7_undo_4 rfl ?_
  by_cases hu : S.2.2.2.1.length = 0
  · have ho : o_undo S = (-2, S) := by simp [o_undo, hu]
    rw [ho]
    refine ax_if_ne (pc' := 10) (tgt := 13) dX7_undo_7 (by decide) rfl (fun hz => absurd (by rw [hto.1, hu]; decide) hz) (fun _ => ?_)
    refine ax_bipush (pc' := 12) (v := (-2)) kb_m2 dX7_undo_10 rfl ?_
    exact ax_iret dX7_undo_12 rfl (Nat.le_of_ble_eq_true rfl) (Nat.le_of_ble_eq_true rfl) (⟨rfl, hx0, ax_fr.rf⟩)
  · have ho : o_undo S = (nI (S.2.2.2.1.length - 1), (S.1, S.2.1, S.2.2.2.1.getD (S.2.2.2.1.length - 1) S.2.2.1, S.2.2.2.1.take (S.2.2.2.1.length - 1), S.2.2.2.2)) := by simp only [o_undo, hu, if_false]
    rw [ho]
    obtain ⟨ts', e, hts, hst, hto'⟩ := tr_ok_pop hto hu
    have hB9 : (S.2.2.2.1.getD (S.2.2.2.1.length - 1) S.2.2.1).1.length ≤ 9 := (hS.2.2.2.2.2.1 _ (sp_getD_mem (by omega))).1
    have hl' : ts'.length + 1 = S.2.2.2.1.length := by have := hto.1; rw [hts] at this; simpa using this
    refine ax_if_ne (pc' := 10) (tgt := 13) dX7_undo_7 (by decide) rfl (fun _ => ?_) (fun hz => absurd hz (by rw [hto.1]; exact nI_ne0 (by omega) (by omega)))
    refine ax_aload_n (pc' := 14) rfl dX7_undo_13 rfl ?_
    refine ax_getf (pc' := 17) fl_X7_42 X_o rfl dX7_undo_14 rfl ?_
    refine ax_aload_n (pc' := 18) rfl dX7_undo_17 rfl ?_
    refine ax_getf (pc' := 21) fl_X7_26 X_o rfl dX7_undo_18 rfl ?_
    refine ax_callVG (pc' := 24) lv_X7_200 (c_takeBack (ts := ts') (e := e) (by rw [← hts]; exact hT) (by omega) hK hS.2.2.2.1.1 hB9 hst (by omega)) T_o rfl rfl (Nat.le_of_ble_eq_true rfl) (Nat.le_of_ble_eq_true rfl) dX7_undo_21 rfl (fun r2' s2 hr2 => ?_)
    obtain ⟨rfl, hT2, hK3, hF⟩ := hr2
    have X_o := (hF.2 0 (by omega) (by omega)).trans X_o
    have T_o : s2.1 25 = _ := hT2.choose_spec.choose_spec.choose_spec.choose_spec.choose_spec.choose_spec.1
    refine ax_aload_n (pc' := 25) rfl dX7_undo_24 rfl ?_
    refine ax_getf (pc' := 28) fl_X7_42 X_o rfl dX7_undo_25 rfl ?_
    refine ax_getf (pc' := 31) fl_X7_199 T_o rfl dX7_undo_28 rfl ?_
    exact ax_iret dX7_undo_31 rfl (Nat.le_of_ble_eq_true rfl) (Nat.le_of_ble_eq_true rfl) (⟨by rw [show ts'.length = S.2.2.2.1.length - 1 by omega], ⟨pb, pq, ts', hpp, hX.on (hF.2 0 (by omega) (by omega)) (fun z _ _ => hF.2 z (by omega) (by omega)), hPa.on (fun z _ _ => hF.2 z (by omega) (by omega)), hRd.on (fun z _ _ => hF.2 z (by omega) (by omega)), hK3, hY.on (fun z _ _ => hF.2 z (by omega) (by omega)), hK1.on (fun z _ _ => hF.2 z (by omega) (by omega)), hK2.on (fun z _ _ => hF.2 z (by omega) (by omega)), hT2, hto', hSg.on (fun z _ _ => hF.2 z (by omega) (by omega)), hG.on (fun z _ _ => hF.2 z (by omega) (by omega)), hQ.on (fun z _ _ => hF.2 z (by omega) (by omega))⟩, hF.1, fun z hz => hF.2 z (by omega) (by omega)⟩)
end XA
