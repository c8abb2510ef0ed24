/-! ===== the model: FAULT and LAY ===== -/
section ML
variable {σ : ax_S} {g t w ac kp se : Int32} {n : Nat} {tx : Nat → Nat}
abbrev rd_Po (σ : ax_S) (g t w ac kp se : Int32) (n : Nat) (tx : Nat → Nat) : Option Value → ax_S → Prop := fun r τ => it_fr σ τ ∧ ((∃ b gg ap bg, sp_pa n tx 200 0 sp_b0 = .inr b ∧ r = some (.int (nI 1)) ∧ τ.1 56 = some (.inr (8, mo_f g t w (nI gg) (nI b.2.1) (nI b.2.2.1) ac kp (nI n) ap bg (nI 0) se)) ∧ 40 * gg = b.1 ∧ mnb_At τ.1 b) ∨ (∃ i ng nt nw ap, sp_pa n tx 200 0 sp_b0 = .inl i ∧ r = some (.int (nI 0)) ∧ τ.1 56 = some (.inr (8, mo_f g t w ng nt nw ac kp (nI n) ap (nI i) (nI 1) se)) ∧ mn_Any τ.1))
theorem m_reads {ng nt nw ap bg wr : Int32} (M_o : σ.1 56 = some (.inr (8, mo_f g t w ng nt nw ac kp (nI n) ap bg wr se))) (hNew : mn_Any σ.1) (hTx : mt_At σ.1 n tx) (hT : sp_tok n tx) : ax_N mX8_reads 4 0 0 [.ref 56] σ (rd_Po σ g t w ac kp se n tx) := by
  have hn := hT.1
  refine ax_N.of (ls := [some (.ref 56), none]) (by decide +kernel) rfl (Nat.le_of_ble_eq_true rfl) ?_
  refine ax_aload_n (pc' := 1) rfl dX8_reads_0 rfl ?_
  refine ax_callVG (pc' := 4) lv_X8_65 (m_clears M_o hNew) M_o rfl rfl (Nat.le_of_ble_eq_true rfl) (Nat.le_of_ble_eq_true rfl) dX8_reads_1 rfl (fun r1 s1 hr1 => ?_)
  obtain ⟨rfl, M_o, hN1, hF1⟩ := hr1
  refine ax_aload_n (pc' := 5) rfl dX8_reads_4 rfl ?_
  refine ax_iconst (pc' := 6) (v := (nI 0)) kc_0 dX8_reads_5 rfl ?_
  refine ax_putu (pc' := 9) fp_X8_116 M_o rfl (fun _ => ⟨rfl, rfl⟩) dX8_reads_6 rfl (fun s2 g2 => ?_)
  have M_o := ax_kS g2
  refine ax_aload_n (pc' := 10) rfl dX8_reads_9 rfl ?_
  refine ax_iconst (pc' := 11) (v := (nI 0)) kc_0 dX8_reads_10 rfl ?_
  refine ax_putu (pc' := 14) fp_X8_127 M_o rfl (fun _ => ⟨rfl, rfl⟩) dX8_reads_11 rfl (fun s3 g3 => ?_)
  have M_o := ax_kS g3
  have hF3 : it_fr σ s3 := (hF1.up g2 (Or.inl rfl)).up g3 (Or.inl rfl)
  have hN3 : mnb_At s3.1 sp_b0 := hN1.on (fun q _ _ => (ax_kF g3 (by omega)).trans (ax_kF g2 (by omega)))
  -- a wrong end
  have WE : ∀ (τ : ax_S) i j (ng nt nw : Int32) (zz : Option Value), j ≤ 1000 → it_fr σ τ → sp_pa n tx 200 0 sp_b0 = .inl i → τ.1 56 = some (.inr (8, mo_f g t w ng nt nw ac kp (nI n) (nI j) (nI i) (nI 1) se)) → mn_Any τ.1 → ax_J (mX8_reads, 4, 0, 0) 0 0 14 [some (.ref 56), zz] [] τ (rd_Po σ g t w ac kp se n tx) := by
    intro τ i j ng nt nw zz hj hF hpa M_o hNa
    have Q : ax_J (mX8_reads, 4, 0, 0) 0 0 98 [some (.ref 56), zz] [] τ (rd_Po σ g t w ac kp se n tx) := by
      refine ax_aload_n (pc' := 99) rfl dX8_reads_98 rfl ?_
      refine ax_getf (pc' := 102) fl_X8_127 M_o rfl dX8_reads_99 rfl ?_
      refine ax_if_ne (pc' := 105) (tgt := 109) dX8_reads_102 (by decide) rfl (fun _ => ?_) (fun hz => absurd hz (kz_1))
      refine ax_iconst (pc' := 110) (v := (nI 0)) kc_0 dX8_reads_109 rfl ?_
      exact ax_zret dX8_reads_110 rfl (by decide) (Nat.le_of_ble_eq_true rfl) (Nat.le_of_ble_eq_true rfl) (⟨hF, Or.inr ⟨i, ng, nt, nw, _, hpa, rfl, M_o, hNa⟩⟩)
    refine ax_aload_n (pc' := 15) rfl dX8_reads_14 rfl ?_
    refine ax_getf (pc' := 18) fl_X8_116 M_o rfl dX8_reads_15 rfl ?_
    refine ax_aload_n (pc' := 19) rfl dX8_reads_18 rfl ?_
    refine ax_getf (pc' := 22) fl_X8_113 M_o rfl dX8_reads_19 rfl ?_
    by_cases h : j < n
    · refine ax_icmp_ge (pc' := 25) (tgt := 98) dX8_reads_22 (by decide) rfl (fun hz => absurd hz (nI_ge h (by omega))) (fun _ => ?_)
      refine ax_aload_n (pc' := 26) rfl dX8_reads_25 rfl ?_
      refine ax_getf (pc' := 29) fl_X8_127 M_o rfl dX8_reads_26 rfl ?_
      refine ax_if_ne (pc' := 32) (tgt := 98) dX8_reads_29 (by decide) rfl (fun _ => ?_) (fun hz => absurd hz (kz_1))
      exact Q
    · refine ax_icmp_ge (pc' := 25) (tgt := 98) dX8_reads_22 (by decide) rfl (fun _ => ?_) (fun hz => absurd (nI_le (by omega) (by omega)) hz)
      exact Q
  have K : ∀ f i (b : sp_B) (gg : Nat) (bg : Int32) (τ : ax_S) (zz : Option Value), n ≤ i + f → i ≤ 300 → sp_pa n tx 200 0 sp_b0 = sp_pa n tx f i b → 40 * gg = b.1 → sp_ok b → τ.1 56 = some (.inr (8, mo_f g t w (nI gg) (nI b.2.1) (nI b.2.2.1) ac kp (nI n) (nI i) bg (nI 0) se)) → mnb_At τ.1 b → it_fr σ τ → ax_J (mX8_reads, 4, 0, 0) 0 0 14 [some (.ref 56), zz] [] τ (rd_Po σ g t w ac kp se n tx) := by
    intro f
    induction f with
    | zero =>
      intro i b gg bg τ zz hf hi3 hpa hgg hb M_o hN hF
      refine ax_aload_n (pc' := 15) rfl dX8_reads_14 rfl ?_
      refine ax_getf (pc' := 18) fl_X8_116 M_o rfl dX8_reads_15 rfl ?_
      refine ax_aload_n (pc' := 19) rfl dX8_reads_18 rfl ?_
      refine ax_getf (pc' := 22) fl_X8_113 M_o rfl dX8_reads_19 rfl ?_
      refine ax_icmp_ge (pc' := 25) (tgt := 98) dX8_reads_22 (by decide) rfl (fun _ => ?_) (fun hz => absurd (nI_le (by omega) (by omega)) hz)
      refine ax_aload_n (pc' := 99) rfl dX8_reads_98 rfl ?_
      refine ax_getf (pc' := 102) fl_X8_127 M_o rfl dX8_reads_99 rfl ?_
      refine ax_if_ne (pc' := 105) (tgt := 109) dX8_reads_102 (by decide) rfl (fun hz => absurd (kz_0) hz) (fun _ => ?_)
      refine ax_iconst (pc' := 106) (v := (nI 1)) kc_1 dX8_reads_105 rfl ?_
      refine ax_goto (tgt := 110) dX8_reads_106 (by decide) ?_
      exact ax_zret dX8_reads_110 rfl (by decide) (Nat.le_of_ble_eq_true rfl) (Nat.le_of_ble_eq_true rfl) (⟨hF, Or.inl ⟨b, gg, _, _, hpa, rfl, M_o, hgg, hN⟩⟩)
    | succ f ih =>
      intro i b gg bg τ zz hf hi3 hpa hgg hb M_o hN hF
      refine ax_aload_n (pc' := 15) rfl dX8_reads_14 rfl ?_
      refine ax_getf (pc' := 18) fl_X8_116 M_o rfl dX8_reads_15 rfl ?_
      refine ax_aload_n (pc' := 19) rfl dX8_reads_18 rfl ?_
      refine ax_getf (pc' := 22) fl_X8_113 M_o rfl dX8_reads_19 rfl ?_
      by_cases hin : i < n
      · have hTx1 : mt_At τ.1 n tx := hTx.on (hF.2 70 (by decide) (by omega))
        have hpe : pk_v n tx i = nI (sp_lt n tx i) := by rw [pk_v, sp_lt, if_pos hin, if_pos hin]
        refine ax_icmp_ge (pc' := 25) (tgt := 98) dX8_reads_22 (by decide) rfl (fun hz => absurd hz (nI_ge hin (by omega))) (fun _ => ?_)
        refine ax_aload_n (pc' := 26) rfl dX8_reads_25 rfl ?_
        refine ax_getf (pc' := 29) fl_X8_127 M_o rfl dX8_reads_26 rfl ?_
        refine ax_if_ne (pc' := 32) (tgt := 98) dX8_reads_29 (by decide) rfl (fun hz => absurd (kz_0) hz) (fun _ => ?_)
        refine ax_aload_n (pc' := 33) rfl dX8_reads_32 rfl ?_
        refine ax_aload_n (pc' := 34) rfl dX8_reads_33 rfl ?_
        refine ax_getf (pc' := 37) fl_X8_116 M_o rfl dX8_reads_34 rfl ?_
        refine ax_putu (pc' := 40) fp_X8_138 M_o rfl (fun _ => ⟨rfl, rfl⟩) dX8_reads_37 rfl (fun s4 g4 => ?_)
        have M_o := ax_kS g4
        have hTx2 := hTx1.on (h' := s4.1) (ax_kF g4 (by decide))
        refine ax_aload_n (pc' := 41) rfl dX8_reads_40 rfl ?_
        refine ax_callVR (pc' := 44) lv_X8_119 (m_peek M_o hTx2 hT (by omega)) M_o rfl rfl (Nat.le_of_ble_eq_true rfl) (Nat.le_of_ble_eq_true rfl) dX8_reads_41 rfl ?_
        refine ax_topi hpe ?_
        refine ax_istore_n (pc' := 45) rfl (Nat.le_of_ble_eq_true rfl) dX8_reads_44 rfl ?_
        refine ax_aload_n (pc' := 46) rfl dX8_reads_45 rfl ?_
        refine ax_dup (pc' := 47) rfl dX8_reads_46 rfl ?_
        refine ax_getf (pc' := 50) fl_X8_116 M_o rfl dX8_reads_47 rfl ?_
        refine ax_iconst (pc' := 51) (v := (nI 1)) kc_1 dX8_reads_50 rfl ?_
        refine ax_iadd (pc' := 52) dX8_reads_51 rfl ?_
        refine ax_topi (nI_add i 1) ?_
        refine ax_putu (pc' := 55) fp_X8_116 M_o rfl (fun _ => ⟨rfl, rfl⟩) dX8_reads_52 rfl (fun s5 g5 => ?_)
        have M_o := ax_kS g5
        have hF5 : it_fr σ s5 := (hF.up g4 (Or.inl rfl)).up g5 (Or.inl rfl)
        have hN5 : mnb_At s5.1 b := hN.on (fun q _ _ => (ax_kF g5 (by omega)).trans (ax_kF g4 (by omega)))
        refine ax_aload_n (pc' := 56) rfl dX8_reads_55 rfl ?_
        refine ax_iload_n (pc' := 57) rfl dX8_reads_56 rfl ?_
        refine ax_callVG (pc' := 60) lv_X8_141 (m_item M_o hgg hN5 hb (hTx2.on (ax_kF g5 (by decide))) hT (by omega) rfl) M_o rfl rfl (Nat.le_of_ble_eq_true rfl) (Nat.le_of_ble_eq_true rfl) dX8_reads_57 rfl (fun r6 s6 hr6 => ?_)
        obtain ⟨rfl, hF6, j, hj, ⟨b', gg', hij, M_o, hgg', hN6, htk⟩ | ⟨ng', nt', nw', M_o, hN6, htk⟩⟩ := hr6
        · have hF7 := hF5.tr hF6
          have hTx6 : mt_At s6.1 n tx := hTx.on (hF7.2 70 (by decide) (by omega))
          refine ax_aload_n (pc' := 61) rfl dX8_reads_60 rfl ?_
          refine ax_aload_n (pc' := 62) rfl dX8_reads_61 rfl ?_
          refine ax_getf (pc' := 65) fl_X8_127 M_o rfl dX8_reads_62 rfl ?_
          refine ax_if_ne (pc' := 68) (tgt := 77) dX8_reads_65 (by decide) rfl (fun hz => absurd (kz_0) hz) (fun _ => ?_)
          refine ax_aload_n (pc' := 69) rfl dX8_reads_68 rfl ?_
          refine ax_callVR (pc' := 72) lv_X8_119 (m_peek M_o hTx6 hT (by omega)) M_o rfl rfl (Nat.le_of_ble_eq_true rfl) (Nat.le_of_ble_eq_true rfl) dX8_reads_69 rfl ?_
          refine ax_bipush (pc' := 74) (v := (nI 59)) kb_59 dX8_reads_72 rfl ?_
          by_cases h59 : sp_lt n tx j = 59
          · rw [if_pos h59] at htk
            refine ax_icmp_eq (pc' := 77) (tgt := 81) dX8_reads_74 (by decide) rfl (fun _ => ?_) (fun hz => absurd ((pk_v_eq hT (by decide) (by decide)).mpr h59) hz)
            refine ax_iconst (pc' := 82) (v := (nI 0)) kc_0 dX8_reads_81 rfl ?_
            refine ax_putu (pc' := 85) fp_X8_127 M_o rfl (fun _ => ⟨rfl, rfl⟩) dX8_reads_82 rfl (fun s7 g7 => ?_)
            have M_o := ax_kS g7
            refine ax_aload_n (pc' := 86) rfl dX8_reads_85 rfl ?_
            refine ax_dup (pc' := 87) rfl dX8_reads_86 rfl ?_
            refine ax_getf (pc' := 90) fl_X8_116 M_o rfl dX8_reads_87 rfl ?_
            refine ax_iconst (pc' := 91) (v := (nI 1)) kc_1 dX8_reads_90 rfl ?_
            refine ax_iadd (pc' := 92) dX8_reads_91 rfl ?_
            refine ax_topi (nI_add j 1) ?_
            refine ax_putu (pc' := 95) fp_X8_116 M_o rfl (fun _ => ⟨rfl, rfl⟩) dX8_reads_92 rfl (fun s8 g8 => ?_)
            have M_o := ax_kS g8
            refine ax_goto (tgt := 14) dX8_reads_95 (by decide) ?_
            have hjn : j < n := by
              unfold sp_lt at h59
              split at h59
              · assumption
              · omega
            refine ih (j + 1) b' gg' _ s8 _ (by omega) (by omega) ?_ hgg' (sp_take_ok hb htk) M_o (hN6.on (fun q _ _ => (ax_kF g8 (by omega)).trans (ax_kF g7 (by omega)))) ((hF7.up g7 (Or.inl rfl)).up g8 (Or.inl rfl))
            rw [hpa]
            simp only [sp_pa, hin, if_true, htk]
          · rw [if_neg h59] at htk
            refine ax_icmp_eq (pc' := 77) (tgt := 81) dX8_reads_74 (by decide) rfl (fun hz => absurd hz (fun h => h59 ((pk_v_eq hT (by decide) (by decide)).mp h))) (fun _ => ?_)
            refine ax_iconst (pc' := 78) (v := (nI 1)) kc_1 dX8_reads_77 rfl ?_
            refine ax_goto (tgt := 82) dX8_reads_78 (by decide) ?_
            refine ax_putu (pc' := 85) fp_X8_127 M_o rfl (fun _ => ⟨rfl, rfl⟩) dX8_reads_82 rfl (fun s7 g7 => ?_)
            have M_o := ax_kS g7
            refine ax_aload_n (pc' := 86) rfl dX8_reads_85 rfl ?_
            refine ax_dup (pc' := 87) rfl dX8_reads_86 rfl ?_
            refine ax_getf (pc' := 90) fl_X8_116 M_o rfl dX8_reads_87 rfl ?_
            refine ax_iconst (pc' := 91) (v := (nI 1)) kc_1 dX8_reads_90 rfl ?_
            refine ax_iadd (pc' := 92) dX8_reads_91 rfl ?_
            refine ax_topi (nI_add j 1) ?_
            refine ax_putu (pc' := 95) fp_X8_116 M_o rfl (fun _ => ⟨rfl, rfl⟩) dX8_reads_92 rfl (fun s8 g8 => ?_)
            have M_o := ax_kS g8
            refine ax_goto (tgt := 14) dX8_reads_95 (by decide) ?_
            refine WE s8 i (j + 1) _ _ _ _ (by omega) ((hF7.up g7 (Or.inl rfl)).up g8 (Or.inl rfl)) ?_ M_o (hN6.any.on (fun q _ _ => (ax_kF g8 (by omega)).trans (ax_kF g7 (by omega))))
            rw [hpa]
            simp only [sp_pa, hin, if_true, htk]
        · have hF7 := hF5.tr hF6
          refine ax_aload_n (pc' := 61) rfl dX8_reads_60 rfl ?_
          refine ax_aload_n (pc' := 62) rfl dX8_reads_61 rfl ?_
          refine ax_getf (pc' := 65) fl_X8_127 M_o rfl dX8_reads_62 rfl ?_
          refine ax_if_ne (pc' := 68) (tgt := 77) dX8_reads_65 (by decide) rfl (fun _ => ?_) (fun hz => absurd hz (kz_1))
          refine ax_iconst (pc' := 78) (v := (nI 1)) kc_1 dX8_reads_77 rfl ?_
          refine ax_goto (tgt := 82) dX8_reads_78 (by decide) ?_
          refine ax_putu (pc' := 85) fp_X8_127 M_o rfl (fun _ => ⟨rfl, rfl⟩) dX8_reads_82 rfl (fun s7 g7 => ?_)
          have M_o := ax_kS g7
          refine ax_aload_n (pc' := 86) rfl dX8_reads_85 rfl ?_
          refine ax_dup (pc' := 87) rfl dX8_reads_86 rfl ?_
          refine ax_getf (pc' := 90) fl_X8_116 M_o rfl dX8_reads_87 rfl ?_
          refine ax_iconst (pc' := 91) (v := (nI 1)) kc_1 dX8_reads_90 rfl ?_
          refine ax_iadd (pc' := 92) dX8_reads_91 rfl ?_
          refine ax_topi (nI_add j 1) ?_
          refine ax_putu (pc' := 95) fp_X8_116 M_o rfl (fun _ => ⟨rfl, rfl⟩) dX8_reads_92 rfl (fun s8 g8 => ?_)
          have M_o := ax_kS g8
          refine ax_goto (tgt := 14) dX8_reads_95 (by decide) ?_
          refine WE s8 i (j + 1) _ _ _ _ (by omega) ((hF7.up g7 (Or.inl rfl)).up g8 (Or.inl rfl)) ?_ M_o (hN6.on (fun q _ _ => (ax_kF g8 (by omega)).trans (ax_kF g7 (by omega))))
          rw [hpa]
          simp only [sp_pa, hin, if_true, htk]
      · refine ax_icmp_ge (pc' := 25) (tgt := 98) dX8_reads_22 (by decide) rfl (fun _ => ?_) (fun hz => absurd (nI_le (by omega) (by omega)) hz)
        refine ax_aload_n (pc' := 99) rfl dX8_reads_98 rfl ?_
        refine ax_getf (pc' := 102) fl_X8_127 M_o rfl dX8_reads_99 rfl ?_
        refine ax_if_ne (pc' := 105) (tgt := 109) dX8_reads_102 (by decide) rfl (fun hz => absurd (kz_0) hz) (fun _ => ?_)
        refine ax_iconst (pc' := 106) (v := (nI 1)) kc_1 dX8_reads_105 rfl ?_
        refine ax_goto (tgt := 110) dX8_reads_106 (by decide) ?_
        exact ax_zret dX8_reads_110 rfl (by decide) (Nat.le_of_ble_eq_true rfl) (Nat.le_of_ble_eq_true rfl) (⟨hF, Or.inl ⟨b, gg, _, _, by rw [hpa]; simp only [sp_pa, hin, if_false], rfl, M_o, hgg, hN⟩⟩)
  exact K 200 0 sp_b0 36 _ s3 _ (by omega) (by decide) rfl rfl sp_b0_ok M_o hN3 hF3
variable {S : sp_S}
theorem y_fault (hx : ms_At σ.1 S) (hS : sp_Ok S) : ax_N mX8_fault 8 0 0 [.ref 56] σ (ms_Po σ (o_fault S)) := by
  obtain ⟨ng, nt, nw, ap, bg, wr, f, M_o, hMb, M_slot, hSl, hNew, hTx, hSg⟩ := id hx
  have keep : ∀ (τ : ax_S) (ng nt nw ap bg wr : Int32), it_fr σ τ → τ.1 56 = some (.inr (8, mo_f (nI S.2.1.1) (nI S.2.1.2.1) (nI S.2.1.2.2.1) ng nt nw (nI S.2.2.2.1.length) (nI S.2.2.2.2.1.length) (nI S.1.1) ap bg wr (nI S.2.2.2.2.2.length))) → mn_Any τ.1 → ms_At τ.1 S ∧ ax_fr 56 19 σ τ := fun τ ng nt nw ap bg wr hF M_o hN => ⟨⟨ng, nt, nw, ap, bg, wr, f, M_o, hMb.on (fun q _ _ => hF.2 q (by omega) (by omega)), (hF.2 69 (by omega) (by omega)).trans M_slot, hSl, hN, hTx.on (hF.2 70 (by omega) (by omega)), hSg.on (fun q _ _ => hF.2 q (by omega) (by omega))⟩, ⟨hF.1, fun q hq => hF.2 q (by omega) (by omega)⟩⟩
  refine ax_N.of (ls := [some (.ref 56)]) (by decide +kernel) rfl (Nat.le_of_ble_eq_true rfl) ?_
  refine ax_aload_n (pc' := 1) rfl dX8_fault_0 rfl ?_
  refine ax_callVG (pc' := 4) lv_X8_145 (m_reads M_o hNew hTx hS.1) M_o rfl rfl (Nat.le_of_ble_eq_true rfl) (Nat.le_of_ble_eq_true rfl) dX8_fault_1 rfl (fun r1 s1 hr1 => ?_)
  obtain ⟨hF, ⟨b, gg, ap, bg, hpa, rfl, M_o, hgg, hN⟩ | ⟨i, ng, nt, nw, ap, hpa, rfl, M_o, hN⟩⟩ := hr1
  · obtain ⟨k1, k2⟩ := keep s1 _ _ _ _ _ _ hF M_o hN.any
    have ho : o_fault S = (-4, S) := by simp only [o_fault, hpa]
    rw [ho]
    refine ax_if_eq (pc' := 7) (tgt := 12) dX8_fault_4 (by decide) rfl (fun hz => absurd hz (kz_1)) (fun _ => ?_)
    refine ax_bipush (pc' := 9) (v := (-4)) kb_m4 dX8_fault_7 rfl ?_
    refine ax_goto (tgt := 16) dX8_fault_9 (by decide) ?_
    exact ax_iret dX8_fault_16 rfl (Nat.le_of_ble_eq_true rfl) (Nat.le_of_ble_eq_true rfl) (⟨rfl, k1, k2⟩)
  · obtain ⟨k1, k2⟩ := keep s1 _ _ _ _ _ _ hF M_o hN
    have ho : o_fault S = (nI i, S) := by simp only [o_fault, hpa]
    rw [ho]
    refine ax_if_eq (pc' := 7) (tgt := 12) dX8_fault_4 (by decide) rfl (fun _ => ?_) (fun hz => absurd (kz_0) hz)
    refine ax_aload_n (pc' := 13) rfl dX8_fault_12 rfl ?_
    refine ax_getf (pc' := 16) fl_X8_138 M_o rfl dX8_fault_13 rfl ?_
    exact ax_iret dX8_fault_16 rfl (Nat.le_of_ble_eq_true rfl) (Nat.le_of_ble_eq_true rfl) (⟨rfl, k1, k2⟩)
theorem y_lay (hx : ms_At σ.1 S) (hS : sp_Ok S) : ax_N mX8_lay 8 0 0 [.ref 56] σ (ms_Po σ (o_lay S)) := by
  obtain ⟨ng, nt, nw, ap, bg, wr, f, M_o, hMb, M_slot, hSl, hNew, hTx, hSg⟩ := id hx
  have keep : ∀ (τ : ax_S) (ng nt nw ap bg wr : Int32), it_fr σ τ → τ.1 56 = some (.inr (8, mo_f (nI S.2.1.1) (nI S.2.1.2.1) (nI S.2.1.2.2.1) ng nt nw (nI S.2.2.2.1.length) (nI S.2.2.2.2.1.length) (nI S.1.1) ap bg wr (nI S.2.2.2.2.2.length))) → mn_Any τ.1 → ms_At τ.1 S ∧ ax_fr 56 19 σ τ := fun τ ng nt nw ap bg wr hF M_o hN => ⟨⟨ng, nt, nw, ap, bg, wr, f, M_o, hMb.on (fun q _ _ => hF.2 q (by omega) (by omega)), (hF.2 69 (by omega) (by omega)).trans M_slot, hSl, hN, hTx.on (hF.2 70 (by omega) (by omega)), hSg.on (fun q _ _ => hF.2 q (by omega) (by omega))⟩, ⟨hF.1, fun q hq => hF.2 q (by omega) (by omega)⟩⟩
  refine ax_N.of (ls := [some (.ref 56)]) (by decide +kernel) rfl (Nat.le_of_ble_eq_true rfl) ?_
  have NO : ∀ (τ : ax_S) zz, o_lay S = (-2, S) → ms_At τ.1 S ∧ ax_fr 56 19 σ τ → ax_J (mX8_lay, 8, 0, 0) 0 0 22 zz [] τ (ms_Po σ (o_lay S)) := by
    intro τ zz ho hk
    rw [ho]
    refine ax_bipush (pc' := 24) (v := (-2)) kb_m2 dX8_lay_22 rfl ?_
    exact ax_iret dX8_lay_24 rfl (Nat.le_of_ble_eq_true rfl) (Nat.le_of_ble_eq_true rfl) (⟨rfl, hk.1, hk.2⟩)
  refine ax_aload_n (pc' := 1) rfl dX8_lay_0 rfl ?_
  refine ax_callVG (pc' := 4) lv_X8_145 (m_reads M_o hNew hTx hS.1) M_o rfl rfl (Nat.le_of_ble_eq_true rfl) (Nat.le_of_ble_eq_true rfl) dX8_lay_1 rfl (fun r1 s1 hr1 => ?_)
  obtain ⟨hF, ⟨b, gg, ap, bg, hpa, rfl, M_o, hgg, hN⟩ | ⟨i, ng, nt, nw, ap, hpa, rfl, M_o, hN⟩⟩ := hr1
  · have hk := keep s1 _ _ _ _ _ _ hF M_o hN.any
    have hb := sp_pa_ok 200 0 sp_b0 b sp_b0_ok hpa
    have h6 := hb.2.1
    have h4 := hb.2.2.1
    refine ax_if_eq (pc' := 7) (tgt := 22) dX8_lay_4 (by decide) rfl (fun hz => absurd hz (kz_1)) (fun _ => ?_)
    refine ax_aload_n (pc' := 8) rfl dX8_lay_7 rfl ?_
    refine ax_getf (pc' := 11) fl_X8_86 M_o rfl dX8_lay_8 rfl ?_
    refine ax_iconst (pc' := 12) (v := (nI 2)) kc_2 dX8_lay_11 rfl ?_
    by_cases ht : b.2.1 < 2
    · refine ax_icmp_lt (pc' := 15) (tgt := 22) dX8_lay_12 (by decide) rfl (fun _ => ?_) (fun hz => absurd (nI_lt ht (by decide)) hz)
      exact NO s1 _ (by simp only [o_lay, hpa, ht, true_or, if_true]) hk
    · refine ax_icmp_lt (pc' := 15) (tgt := 22) dX8_lay_12 (by decide) rfl (fun hz => absurd hz (nI_nlt (by omega) (by omega))) (fun _ => ?_)
      refine ax_aload_n (pc' := 16) rfl dX8_lay_15 rfl ?_
      refine ax_getf (pc' := 19) fl_X8_89 M_o rfl dX8_lay_16 rfl ?_
      by_cases hw : b.2.2.1 < 1
      · refine ax_if_ne (pc' := 22) (tgt := 25) dX8_lay_19 (by decide) rfl (fun hz => absurd (by rw [show b.2.2.1 = 0 by omega]; exact kz_0) hz) (fun _ => ?_)
        exact NO s1 _ (by simp only [o_lay, hpa, hw, or_true, if_true]) hk
      · have ho : o_lay S = (nI b.2.1, (S.1, b, ([], 0), [], [], [])) := by simp only [o_lay, hpa, ht, hw, or_self, if_false]
        rw [ho]
        refine ax_if_ne (pc' := 22) (tgt := 25) dX8_lay_19 (by decide) rfl (fun _ => ?_) (fun hz => absurd hz (nI_ne0 (by omega) (by omega)))
        refine ax_aload_n (pc' := 26) rfl dX8_lay_25 rfl ?_
        refine ax_callVG (pc' := 29) lv_X8_79 (m_settles M_o (hMb.any.imp (fun fl ⟨fn, fb, fk, fp, fu, a1, a2, a3, a4, a5, a6⟩ => ⟨fn, fb, fk, fp, fu, (hF.2 57 (by omega) (by omega)).trans a1, (hF.2 58 (by omega) (by omega)).trans a2, (hF.2 59 (by omega) (by omega)).trans a3, (hF.2 60 (by omega) (by omega)).trans a4, (hF.2 61 (by omega) (by omega)).trans a5, (hF.2 62 (by omega) (by omega)).trans a6⟩)) hN h6 h4) M_o rfl rfl (Nat.le_of_ble_eq_true rfl) (Nat.le_of_ble_eq_true rfl) dX8_lay_26 rfl (fun r2 s2 hr2 => ?_)
        obtain ⟨rfl, M_o, hB2, hF2⟩ := hr2
        have M_slot : s2.1 69 = _ := (hF2.2 69 (by omega)).trans ((hF.2 69 (by omega) (by omega)).trans M_slot)
        refine ax_aload_n (pc' := 30) rfl dX8_lay_29 rfl ?_
        refine ax_getf (pc' := 33) fl_X8_46 M_o rfl dX8_lay_30 rfl ?_
        refine ax_bipush (pc' := 35) (v := (nI 36)) kb_36 dX8_lay_33 rfl ?_
        refine ax_iconst (pc' := 36) (v := (nI 0)) kc_0 dX8_lay_35 rfl ?_
        refine ax_iasu (pc' := 37) M_slot rfl (by omega) (by first | decide | assumption | omega) dX8_lay_36 rfl (fun s3 g3 => ?_)
        have M_slot := ax_kS g3
        have M_o := ax_kN g3 M_o (by omega)
        refine ax_aload_n (pc' := 38) rfl dX8_lay_37 rfl ?_
        refine ax_getf (pc' := 41) fl_X8_46 M_o rfl dX8_lay_38 rfl ?_
        refine ax_bipush (pc' := 43) (v := (nI 37)) kb_37 dX8_lay_41 rfl ?_
        refine ax_iconst (pc' := 44) (v := (nI 0)) kc_0 dX8_lay_43 rfl ?_
        refine ax_iasu (pc' := 45) M_slot rfl (by omega) (by first | decide | assumption | omega) dX8_lay_44 rfl (fun s4 g4 => ?_)
        have M_slot := ax_kS g4
        have M_o := ax_kN g4 M_o (by omega)
        refine ax_aload_n (pc' := 46) rfl dX8_lay_45 rfl ?_
        refine ax_iconst (pc' := 47) (v := (nI 0)) kc_0 dX8_lay_46 rfl ?_
        refine ax_putu (pc' := 50) fp_X8_149 M_o rfl (fun _ => ⟨rfl, rfl⟩) dX8_lay_47 rfl (fun s5 g5 => ?_)
        have M_o := ax_kS g5
        have M_slot := ax_kN g5 M_slot (by omega)
        refine ax_aload_n (pc' := 51) rfl dX8_lay_50 rfl ?_
        refine ax_iconst (pc' := 52) (v := (nI 0)) kc_0 dX8_lay_51 rfl ?_
        refine ax_putu (pc' := 55) fp_X8_152 M_o rfl (fun _ => ⟨rfl, rfl⟩) dX8_lay_52 rfl (fun s6 g6 => ?_)
        have M_o := ax_kS g6
        have M_slot := ax_kN g6 M_slot (by omega)
        refine ax_aload_n (pc' := 56) rfl dX8_lay_55 rfl ?_
        refine ax_iconst (pc' := 57) (v := (nI 0)) kc_0 dX8_lay_56 rfl ?_
        refine ax_putu (pc' := 60) fp_X8_155 M_o rfl (fun _ => ⟨rfl, rfl⟩) dX8_lay_57 rfl (fun s7 g7 => ?_)
        have M_o := ax_kS g7
        have M_slot := ax_kN g7 M_slot (by omega)
        have G : ∀ q, q ≠ 56 → q ≠ 69 → s7.1 q = s2.1 q := fun q a1 a2 => (ax_kF g7 a1).trans ((ax_kF g6 a1).trans ((ax_kF g5 a1).trans ((ax_kF g4 a2).trans (ax_kF g3 a2))))
        have G2 : ∀ q, (q < 56 ∨ 70 ≤ q) → s7.1 q = σ.1 q := fun q a1 => (G q (by omega) (by omega)).trans ((hF2.2 q (by omega)).trans (hF.2 q (by omega) (by omega)))
        rw [hgg] at M_o
        refine ax_aload_n (pc' := 61) rfl dX8_lay_60 rfl ?_
        refine ax_getf (pc' := 64) fl_X8_95 M_o rfl dX8_lay_61 rfl ?_
        obtain ⟨gw, gf, gt, gs, a1, a2, a3, a4, -⟩ := hSg
        refine ax_iret dX8_lay_64 rfl (Nat.le_refl 0) (Nat.le_refl 0) ⟨rfl, ⟨_, _, _, _, _, _, _, M_o, hB2.on (fun q _ _ => G q (by omega) (by omega)), M_slot, ⟨⟨?_, ?_, fun i hi => absurd hi (Nat.not_lt_zero _)⟩, fun i u h => (by cases h), fun i u h => (by cases h)⟩, (hN.any.on (fun q _ _ => hF2.2 q (by omega))).on (fun q _ _ => G q (by omega) (by omega)), hTx.on (G2 70 (by omega)), ⟨gw, gf, gt, gs, (G2 _ (by omega)).trans a1, (G2 _ (by omega)).trans a2, (G2 _ (by omega)).trans a3, (G2 _ (by omega)).trans a4, fun i hi => absurd hi (Nat.not_lt_zero _)⟩⟩, ⟨?_, fun q hq => G2 q (by omega)⟩⟩
        · rw [pk_un (by decide), pk_us]
          rfl
        · rw [pk_us]
        · exact (ax_k2 g7).trans ((ax_k2 g6).trans ((ax_k2 g5).trans ((ax_k2 g4).trans ((ax_k2 g3).trans (hF2.1.trans hF.1)))))
  · have hk := keep s1 _ _ _ _ _ _ hF M_o hN
    refine ax_if_eq (pc' := 7) (tgt := 22) dX8_lay_4 (by decide) rfl (fun _ => ?_) (fun hz => absurd (kz_0) hz)
    exact NO s1 _ (by simp only [o_lay, hpa]) hk
end ML
