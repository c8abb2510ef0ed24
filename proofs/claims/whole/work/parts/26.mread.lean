/-! ===== the model reads and lays ===== -/
def mb_Any (h : ax_H) : Prop := ∃ fl fn fb fk fp fu : Nat → Int32, h 57 = some (.inl (false, 6, fl)) ∧ h 58 = some (.inl (false, 6, fn)) ∧ h 59 = some (.inl (false, 36, fb)) ∧ h 60 = some (.inl (false, 4, fk)) ∧ h 61 = some (.inl (false, 4, fp)) ∧ h 62 = some (.inl (false, 4, fu))
theorem mb_At.any {h : ax_H} {b : sp_B} (hB : mb_At h b) : mb_Any h := by
  obtain ⟨fl, fn, fb, fk, fp, fu, a1, a2, a3, a4, a5, a6, -⟩ := hB
  exact ⟨fl, fn, fb, fk, fp, fu, a1, a2, a3, a4, a5, a6⟩
theorem rn_ge {n : Nat} {tx : Nat → Nat} {i v j : Nat} (h : sp_rn n tx i = (some v, j)) : i < j ∧ j ≤ i + 2 := by
  unfold sp_rn at h
  split at h
  · split at h
    · cases h; omega
    · cases h; omega
  · cases h
section MT
variable {σ : ax_S} {g t w ac kp ln ap bg wr se : Int32} {b : sp_B}
abbrev st_Po (σ : ax_S) (ac kp ln ap bg wr se : Int32) (gg : Nat) (b : sp_B) : Option Value → ax_S → Prop := fun r τ => r = none ∧ τ.1 56 = some (.inr (8, mo_f (nI (40 * gg)) (nI b.2.1) (nI b.2.2.1) (nI gg) (nI b.2.1) (nI b.2.2.1) ac kp ln ap bg wr se)) ∧ mb_At τ.1 b ∧ ax_fr 56 7 σ τ
theorem m_settles {gg : Nat} (M_o : σ.1 56 = some (.inr (8, mo_f g t w (nI gg) (nI b.2.1) (nI b.2.2.1) ac kp ln ap bg wr se))) (hOld : mb_Any σ.1) (hN : mnb_At σ.1 b) (h6 : b.2.1 ≤ 6) (h4 : b.2.2.1 ≤ 4) : ax_N mX8_settles 0 0 0 [.ref 56] σ (st_Po σ ac kp ln ap bg wr se gg b) := by
  obtain ⟨nl, nn, nb, nk, np, nu, N1, N2, N3, N4, N5, N6, r1, r2, r3⟩ := hN
  obtain ⟨fl, fn, fb, fk, fp, fu, O1, O2, O3, O4, O5, O6⟩ := hOld
  have K3 : ∀ m i (τ : ax_S) (fl fn fb fk fp fu : Nat → Int32), i + m = 4 → τ.1 56 = some (.inr (8, mo_f (nI (40 * gg)) (nI b.2.1) (nI b.2.2.1) (nI gg) (nI b.2.1) (nI b.2.2.1) ac kp ln ap bg wr se)) → τ.1 57 = some (.inl (false, 6, fl)) → τ.1 58 = some (.inl (false, 6, fn)) → τ.1 59 = some (.inl (false, 36, fb)) → τ.1 60 = some (.inl (false, 4, fk)) → τ.1 61 = some (.inl (false, 4, fp)) → τ.1 62 = some (.inl (false, 4, fu)) → (∀ q, q < 6 → fl q = nl q ∧ fn q = nn q) → (∀ q, q < 36 → fb q = nb q) → (∀ q, q < i → fk q = nk q ∧ fp q = np q ∧ fu q = nu q) → ax_fr 56 7 σ τ → ax_J (mX8_settles, 0, 0, 0) 0 0 93 [some (.ref 56), some (.int (nI i))] [] τ (st_Po σ ac kp ln ap bg wr se gg b) := by
    intro m
    induction m with
    | zero =>
      intro i τ fl fn fb fk fp fu hi M_o a1 a2 a3 a4 a5 a6 q1 q2 q3 hF
      have hi : i = 4 := hi
      subst hi
      refine ax_iload_n (pc' := 94) rfl dX8_settles_93 rfl ?_
      refine ax_iconst (pc' := 95) (v := (nI 4)) kc_4 dX8_settles_94 rfl ?_
      refine ax_icmp_ge (pc' := 98) (tgt := 140) dX8_settles_95 (by decide) rfl (fun _ => ?_) (fun hz => absurd ((by decide)) hz)
      refine ax_vret dX8_settles_140 rfl (Nat.le_refl 0) (Nat.le_refl 0) ⟨rfl, M_o, ⟨fl, fn, fb, fk, fp, fu, a1, a2, a3, a4, a5, a6, fun t h => ?_, fun q h => (q2 q h).trans (r2 q h), fun u h => ?_⟩, hF⟩
      · rw [(q1 t (by omega)).1, (q1 t (by omega)).2]
        exact r1 t h
      · rw [(q3 u (by omega)).1, (q3 u (by omega)).2.1, (q3 u (by omega)).2.2]
        exact r3 u h
    | succ m ih =>
      intro i τ fl fn fb fk fp fu hi M_o a1 a2 a3 M_sort M_pace M_unit q1 q2 q3 hF
      have M_newSort := hF.at N4 (by omega)
      have M_newPace := hF.at N5 (by omega)
      have M_newUnit := hF.at N6 (by omega)
      refine ax_iload_n (pc' := 94) rfl dX8_settles_93 rfl ?_
      refine ax_iconst (pc' := 95) (v := (nI 4)) kc_4 dX8_settles_94 rfl ?_
      refine ax_icmp_ge (pc' := 98) (tgt := 140) dX8_settles_95 (by decide) rfl (fun hz => absurd hz (nI_ge (by omega) (by decide))) (fun _ => ?_)
      refine ax_aload_n (pc' := 99) rfl dX8_settles_98 rfl ?_
      refine ax_getf (pc' := 102) fl_X8_19 M_o rfl dX8_settles_99 rfl ?_
      refine ax_iload_n (pc' := 103) rfl dX8_settles_102 rfl ?_
      refine ax_aload_n (pc' := 104) rfl dX8_settles_103 rfl ?_
      refine ax_getf (pc' := 107) fl_X8_37 M_o rfl dX8_settles_104 rfl ?_
      refine ax_iload_n (pc' := 108) rfl dX8_settles_107 rfl ?_
      refine ax_iald (pc' := 109) M_newSort rfl (by omega) (by first | decide | assumption | omega) dX8_settles_108 rfl ?_
      refine ax_iasu (pc' := 110) M_sort rfl (by omega) (by first | decide | assumption | omega) dX8_settles_109 rfl (fun s1 g1 => ?_)
      have M_sort := ax_kS g1
      have M_o := ax_kN g1 M_o (by omega)
      have a1 := ax_kN g1 a1 (by omega)
      have a2 := ax_kN g1 a2 (by omega)
      have a3 := ax_kN g1 a3 (by omega)
      have M_pace := ax_kN g1 M_pace (by omega)
      have M_unit := ax_kN g1 M_unit (by omega)
      have M_newPace := ax_kN g1 M_newPace (by omega)
      have M_newUnit := ax_kN g1 M_newUnit (by omega)
      refine ax_aload_n (pc' := 111) rfl dX8_settles_110 rfl ?_
      refine ax_getf (pc' := 114) fl_X8_22 M_o rfl dX8_settles_111 rfl ?_
      refine ax_iload_n (pc' := 115) rfl dX8_settles_114 rfl ?_
      refine ax_aload_n (pc' := 116) rfl dX8_settles_115 rfl ?_
      refine ax_getf (pc' := 119) fl_X8_40 M_o rfl dX8_settles_116 rfl ?_
      refine ax_iload_n (pc' := 120) rfl dX8_settles_119 rfl ?_
      refine ax_iald (pc' := 121) M_newPace rfl (by omega) (by first | decide | assumption | omega) dX8_settles_120 rfl ?_
      refine ax_iasu (pc' := 122) M_pace rfl (by omega) (by first | decide | assumption | omega) dX8_settles_121 rfl (fun s2 g2 => ?_)
      have M_pace := ax_kS g2
      have M_o := ax_kN g2 M_o (by omega)
      have a1 := ax_kN g2 a1 (by omega)
      have a2 := ax_kN g2 a2 (by omega)
      have a3 := ax_kN g2 a3 (by omega)
      have M_sort := ax_kN g2 M_sort (by omega)
      have M_unit := ax_kN g2 M_unit (by omega)
      have M_newUnit := ax_kN g2 M_newUnit (by omega)
      refine ax_aload_n (pc' := 123) rfl dX8_settles_122 rfl ?_
      refine ax_getf (pc' := 126) fl_X8_25 M_o rfl dX8_settles_123 rfl ?_
      refine ax_iload_n (pc' := 127) rfl dX8_settles_126 rfl ?_
      refine ax_aload_n (pc' := 128) rfl dX8_settles_127 rfl ?_
      refine ax_getf (pc' := 131) fl_X8_43 M_o rfl dX8_settles_128 rfl ?_
      refine ax_iload_n (pc' := 132) rfl dX8_settles_131 rfl ?_
      refine ax_iald (pc' := 133) M_newUnit rfl (by omega) (by first | decide | assumption | omega) dX8_settles_132 rfl ?_
      refine ax_iasu (pc' := 134) M_unit rfl (by omega) (by first | decide | assumption | omega) dX8_settles_133 rfl (fun s3 g3 => ?_)
      have M_unit := ax_kS g3
      have M_o := ax_kN g3 M_o (by omega)
      have a1 := ax_kN g3 a1 (by omega)
      have a2 := ax_kN g3 a2 (by omega)
      have a3 := ax_kN g3 a3 (by omega)
      have M_sort := ax_kN g3 M_sort (by omega)
      have M_pace := ax_kN g3 M_pace (by omega)
      refine ax_iinc1 (pc' := 137) rfl rfl (Nat.le_of_ble_eq_true rfl) dX8_settles_134 rfl ?_
      refine ax_goto (tgt := 93) dX8_settles_137 (by decide) ?_
      refine ih (i + 1) s3 fl fn fb _ _ _ (by omega) M_o a1 a2 a3 M_sort M_pace M_unit q1 q2 (fun q h => ?_) (((hF.up g1 (by omega) (by omega)).up g2 (by omega) (by omega)).up g3 (by omega) (by omega))
      by_cases e : q = i
      · rw [e, pk_us, pk_us, pk_us]
        exact ⟨rfl, rfl, rfl⟩
      · rw [pk_un e, pk_un e, pk_un e]
        exact q3 q (by omega)
  have K2 : ∀ m i (τ : ax_S) (fl fn fb : Nat → Int32), i + m = 36 → τ.1 56 = some (.inr (8, mo_f (nI (40 * gg)) (nI b.2.1) (nI b.2.2.1) (nI gg) (nI b.2.1) (nI b.2.2.1) ac kp ln ap bg wr se)) → τ.1 57 = some (.inl (false, 6, fl)) → τ.1 58 = some (.inl (false, 6, fn)) → τ.1 59 = some (.inl (false, 36, fb)) → τ.1 60 = some (.inl (false, 4, fk)) → τ.1 61 = some (.inl (false, 4, fp)) → τ.1 62 = some (.inl (false, 4, fu)) → (∀ q, q < 6 → fl q = nl q ∧ fn q = nn q) → (∀ q, q < i → fb q = nb q) → ax_fr 56 7 σ τ → ax_J (mX8_settles, 0, 0, 0) 0 0 67 [some (.ref 56), some (.int (nI i))] [] τ (st_Po σ ac kp ln ap bg wr se gg b) := by
    intro m
    induction m with
    | zero =>
      intro i τ fl fn fb hi M_o a1 a2 a3 a4 a5 a6 q1 q2 hF
      have hi : i = 36 := hi
      subst hi
      refine ax_iload_n (pc' := 68) rfl dX8_settles_67 rfl ?_
      refine ax_bipush (pc' := 70) (v := (nI 36)) kb_36 dX8_settles_68 rfl ?_
      refine ax_icmp_ge (pc' := 73) (tgt := 91) dX8_settles_70 (by decide) rfl (fun _ => ?_) (fun hz => absurd ((by decide)) hz)
      refine ax_iconst (pc' := 92) (v := (nI 0)) kc_0 dX8_settles_91 rfl ?_
      refine ax_istore_n (pc' := 93) rfl (Nat.le_of_ble_eq_true rfl) dX8_settles_92 rfl ?_
      exact K3 4 0 τ fl fn fb fk fp fu (by decide) M_o a1 a2 a3 a4 a5 a6 q1 q2 (fun q h => absurd h (Nat.not_lt_zero _)) hF
    | succ m ih =>
      intro i τ fl fn fb hi M_o a1 a2 M_bend a4 a5 a6 q1 q2 hF
      have M_newBend := hF.at N3 (by omega)
      refine ax_iload_n (pc' := 68) rfl dX8_settles_67 rfl ?_
      refine ax_bipush (pc' := 70) (v := (nI 36)) kb_36 dX8_settles_68 rfl ?_
      refine ax_icmp_ge (pc' := 73) (tgt := 91) dX8_settles_70 (by decide) rfl (fun hz => absurd hz (nI_ge (by omega) (by decide))) (fun _ => ?_)
      refine ax_aload_n (pc' := 74) rfl dX8_settles_73 rfl ?_
      refine ax_getf (pc' := 77) fl_X8_16 M_o rfl dX8_settles_74 rfl ?_
      refine ax_iload_n (pc' := 78) rfl dX8_settles_77 rfl ?_
      refine ax_aload_n (pc' := 79) rfl dX8_settles_78 rfl ?_
      refine ax_getf (pc' := 82) fl_X8_34 M_o rfl dX8_settles_79 rfl ?_
      refine ax_iload_n (pc' := 83) rfl dX8_settles_82 rfl ?_
      refine ax_iald (pc' := 84) M_newBend rfl (by omega) (by first | decide | assumption | omega) dX8_settles_83 rfl ?_
      refine ax_iasu (pc' := 85) M_bend rfl (by omega) (by first | decide | assumption | omega) dX8_settles_84 rfl (fun s1 g1 => ?_)
      have M_bend := ax_kS g1
      have M_o := ax_kN g1 M_o (by omega)
      have a1 := ax_kN g1 a1 (by omega)
      have a2 := ax_kN g1 a2 (by omega)
      have a4 := ax_kN g1 a4 (by omega)
      have a5 := ax_kN g1 a5 (by omega)
      have a6 := ax_kN g1 a6 (by omega)
      refine ax_iinc1 (pc' := 88) rfl rfl (Nat.le_of_ble_eq_true rfl) dX8_settles_85 rfl ?_
      refine ax_goto (tgt := 67) dX8_settles_88 (by decide) ?_
      refine ih (i + 1) s1 fl fn _ (by omega) M_o a1 a2 M_bend a4 a5 a6 q1 (fun q h => ?_) (hF.up g1 (by omega) (by omega))
      by_cases e : q = i
      · rw [e, pk_us]
      · rw [pk_un e]
        exact q2 q (by omega)
  have K1 : ∀ m i (τ : ax_S) (fl fn : Nat → Int32), i + m = 6 → τ.1 56 = some (.inr (8, mo_f (nI (40 * gg)) (nI b.2.1) (nI b.2.2.1) (nI gg) (nI b.2.1) (nI b.2.2.1) ac kp ln ap bg wr se)) → τ.1 57 = some (.inl (false, 6, fl)) → τ.1 58 = some (.inl (false, 6, fn)) → τ.1 59 = some (.inl (false, 36, fb)) → τ.1 60 = some (.inl (false, 4, fk)) → τ.1 61 = some (.inl (false, 4, fp)) → τ.1 62 = some (.inl (false, 4, fu)) → (∀ q, q < i → fl q = nl q ∧ fn q = nn q) → ax_fr 56 7 σ τ → ax_J (mX8_settles, 0, 0, 0) 0 0 29 [some (.ref 56), some (.int (nI i))] [] τ (st_Po σ ac kp ln ap bg wr se gg b) := by
    intro m
    induction m with
    | zero =>
      intro i τ fl fn hi M_o a1 a2 a3 a4 a5 a6 q1 hF
      have hi : i = 6 := hi
      subst hi
      refine ax_iload_n (pc' := 30) rfl dX8_settles_29 rfl ?_
      refine ax_bipush (pc' := 32) (v := (nI 6)) kb_6 dX8_settles_30 rfl ?_
      refine ax_icmp_ge (pc' := 35) (tgt := 65) dX8_settles_32 (by decide) rfl (fun _ => ?_) (fun hz => absurd ((by decide)) hz)
      refine ax_iconst (pc' := 66) (v := (nI 0)) kc_0 dX8_settles_65 rfl ?_
      refine ax_istore_n (pc' := 67) rfl (Nat.le_of_ble_eq_true rfl) dX8_settles_66 rfl ?_
      exact K2 36 0 τ fl fn fb (by decide) M_o a1 a2 a3 a4 a5 a6 q1 (fun q h => absurd h (Nat.not_lt_zero _)) hF
    | succ m ih =>
      intro i τ fl fn hi M_o M_north M_lean a3 a4 a5 a6 q1 hF
      have M_newNorth := hF.at N1 (by omega)
      have M_newLean := hF.at N2 (by omega)
      refine ax_iload_n (pc' := 30) rfl dX8_settles_29 rfl ?_
      refine ax_bipush (pc' := 32) (v := (nI 6)) kb_6 dX8_settles_30 rfl ?_
      refine ax_icmp_ge (pc' := 35) (tgt := 65) dX8_settles_32 (by decide) rfl (fun hz => absurd hz (nI_ge (by omega) (by decide))) (fun _ => ?_)
      refine ax_aload_n (pc' := 36) rfl dX8_settles_35 rfl ?_
      refine ax_getf (pc' := 39) fl_X8_7 M_o rfl dX8_settles_36 rfl ?_
      refine ax_iload_n (pc' := 40) rfl dX8_settles_39 rfl ?_
      refine ax_aload_n (pc' := 41) rfl dX8_settles_40 rfl ?_
      refine ax_getf (pc' := 44) fl_X8_28 M_o rfl dX8_settles_41 rfl ?_
      refine ax_iload_n (pc' := 45) rfl dX8_settles_44 rfl ?_
      refine ax_iald (pc' := 46) M_newNorth rfl (by omega) (by first | decide | assumption | omega) dX8_settles_45 rfl ?_
      refine ax_iasu (pc' := 47) M_north rfl (by omega) (by first | decide | assumption | omega) dX8_settles_46 rfl (fun s1 g1 => ?_)
      have M_north := ax_kS g1
      have M_o := ax_kN g1 M_o (by omega)
      have M_lean := ax_kN g1 M_lean (by omega)
      have a3 := ax_kN g1 a3 (by omega)
      have a4 := ax_kN g1 a4 (by omega)
      have a5 := ax_kN g1 a5 (by omega)
      have a6 := ax_kN g1 a6 (by omega)
      have M_newLean := ax_kN g1 M_newLean (by omega)
      refine ax_aload_n (pc' := 48) rfl dX8_settles_47 rfl ?_
      refine ax_getf (pc' := 51) fl_X8_13 M_o rfl dX8_settles_48 rfl ?_
      refine ax_iload_n (pc' := 52) rfl dX8_settles_51 rfl ?_
      refine ax_aload_n (pc' := 53) rfl dX8_settles_52 rfl ?_
      refine ax_getf (pc' := 56) fl_X8_31 M_o rfl dX8_settles_53 rfl ?_
      refine ax_iload_n (pc' := 57) rfl dX8_settles_56 rfl ?_
      refine ax_iald (pc' := 58) M_newLean rfl (by omega) (by first | decide | assumption | omega) dX8_settles_57 rfl ?_
      refine ax_iasu (pc' := 59) M_lean rfl (by omega) (by first | decide | assumption | omega) dX8_settles_58 rfl (fun s2 g2 => ?_)
      have M_lean := ax_kS g2
      have M_o := ax_kN g2 M_o (by omega)
      have M_north := ax_kN g2 M_north (by omega)
      have a3 := ax_kN g2 a3 (by omega)
      have a4 := ax_kN g2 a4 (by omega)
      have a5 := ax_kN g2 a5 (by omega)
      have a6 := ax_kN g2 a6 (by omega)
      refine ax_iinc1 (pc' := 62) rfl rfl (Nat.le_of_ble_eq_true rfl) dX8_settles_59 rfl ?_
      refine ax_goto (tgt := 29) dX8_settles_62 (by decide) ?_
      refine ih (i + 1) s2 _ _ (by omega) M_o M_north M_lean a3 a4 a5 a6 (fun q h => ?_) ((hF.up g1 (by omega) (by omega)).up g2 (by omega) (by omega))
      by_cases e : q = i
      · rw [e, pk_us, pk_us]
        exact ⟨rfl, rfl⟩
      · rw [pk_un e, pk_un e]
        exact q1 q (by omega)
  refine ax_N.of (ls := [some (.ref 56), none]) (by decide +kernel) rfl (Nat.le_of_ble_eq_true rfl) ?_
  refine ax_aload_n (pc' := 1) rfl dX8_settles_0 rfl ?_
  refine ax_bipush (pc' := 3) (v := (nI 40)) kb_40 dX8_settles_1 rfl ?_
  refine ax_aload_n (pc' := 4) rfl dX8_settles_3 rfl ?_
  refine ax_getf (pc' := 7) fl_X8_82 M_o rfl dX8_settles_4 rfl ?_
  refine ax_imul (pc' := 8) dX8_settles_7 rfl ?_
  refine ax_topi (pk_mul 40 gg) ?_
  refine ax_putu (pc' := 11) fp_X8_92 M_o rfl (fun _ => ⟨rfl, rfl⟩) dX8_settles_8 rfl (fun s1 g1 => ?_)
  have M_o := ax_kS g1
  have O1 := ax_kN g1 O1 (by omega)
  have O2 := ax_kN g1 O2 (by omega)
  have O3 := ax_kN g1 O3 (by omega)
  have O4 := ax_kN g1 O4 (by omega)
  have O5 := ax_kN g1 O5 (by omega)
  have O6 := ax_kN g1 O6 (by omega)
  refine ax_aload_n (pc' := 12) rfl dX8_settles_11 rfl ?_
  refine ax_aload_n (pc' := 13) rfl dX8_settles_12 rfl ?_
  refine ax_getf (pc' := 16) fl_X8_86 M_o rfl dX8_settles_13 rfl ?_
  refine ax_putu (pc' := 19) fp_X8_95 M_o rfl (fun _ => ⟨rfl, rfl⟩) dX8_settles_16 rfl (fun s2 g2 => ?_)
  have M_o := ax_kS g2
  have O1 := ax_kN g2 O1 (by omega)
  have O2 := ax_kN g2 O2 (by omega)
  have O3 := ax_kN g2 O3 (by omega)
  have O4 := ax_kN g2 O4 (by omega)
  have O5 := ax_kN g2 O5 (by omega)
  have O6 := ax_kN g2 O6 (by omega)
  refine ax_aload_n (pc' := 20) rfl dX8_settles_19 rfl ?_
  refine ax_aload_n (pc' := 21) rfl dX8_settles_20 rfl ?_
  refine ax_getf (pc' := 24) fl_X8_89 M_o rfl dX8_settles_21 rfl ?_
  refine ax_putu (pc' := 27) fp_X8_98 M_o rfl (fun _ => ⟨rfl, rfl⟩) dX8_settles_24 rfl (fun s3 g3 => ?_)
  have M_o := ax_kS g3
  have O1 := ax_kN g3 O1 (by omega)
  have O2 := ax_kN g3 O2 (by omega)
  have O3 := ax_kN g3 O3 (by omega)
  have O4 := ax_kN g3 O4 (by omega)
  have O5 := ax_kN g3 O5 (by omega)
  have O6 := ax_kN g3 O6 (by omega)
  refine ax_iconst (pc' := 28) (v := (nI 0)) kc_0 dX8_settles_27 rfl ?_
  refine ax_istore_n (pc' := 29) rfl (Nat.le_of_ble_eq_true rfl) dX8_settles_28 rfl ?_
  exact K1 6 0 s3 fl fn (by decide) M_o O1 O2 O3 O4 O5 O6 (fun q h => absurd h (Nat.not_lt_zero _)) (((ax_fr.rf.up g1 (by omega) (by omega)).up g2 (by omega) (by omega)).up g3 (by omega) (by omega))
variable {n : Nat} {tx : Nat → Nat}
abbrev im_Po (σ : ax_S) (g t w ac kp : Int32) (n : Nat) (tx : Nat → Nat) (bg se : Int32) (i : Nat) (b : sp_B) : Option Value → ax_S → Prop := fun r τ => r = none ∧ it_fr σ τ ∧ ∃ j, j ≤ i + 20 ∧ ((∃ b' gg, i < j ∧ τ.1 56 = some (.inr (8, mo_f g t w (nI gg) (nI b'.2.1) (nI b'.2.2.1) ac kp (nI n) (nI j) bg (nI 0) se)) ∧ 40 * gg = b'.1 ∧ mnb_At τ.1 b' ∧ sp_take n tx i b = if sp_lt n tx j = 59 then some (b', j + 1) else none) ∨ (∃ ng nt nw, τ.1 56 = some (.inr (8, mo_f g t w ng nt nw ac kp (nI n) (nI j) bg (nI 1) se)) ∧ mn_Any τ.1 ∧ sp_take n tx i b = none))
theorem m_item {i gg ch : Nat} (M_o : σ.1 56 = some (.inr (8, mo_f g t w (nI gg) (nI b.2.1) (nI b.2.2.1) ac kp (nI n) (nI (i + 1)) bg (nI 0) se))) (hgg : 40 * gg = b.1) (hN : mnb_At σ.1 b) (hb : sp_ok b) (hTx : mt_At σ.1 n tx) (hT : sp_tok n tx) (hi : i ≤ 200) (hch : sp_lt n tx i = ch) : ax_N mX8_item 3 0 0 [.ref 56, .int (nI ch)] σ (im_Po σ g t w ac kp n tx bg se i b) := by
  have hc126 : ch ≤ 126 := by rw [← hch]; exact sp_lt_le hT i
  have h6 := hb.2.1
  have h4 := hb.2.2.1
  have h0 : σ = mo_t σ g t w (nI gg) (nI b.2.1) (nI b.2.2.1) ac kp n (i + 1) bg 0 se := by rw [mo_t, ax_upi M_o]
  have ne : ∀ k : Nat, k < 128 → ch ≠ k → ¬ nI ch = nI k := fun k hk h e => h ((nI_eq (by omega) (by omega)).mp e)
  have tt : ∀ (τ0 τ1 : ax_S) (c c' : ax_C), τ0 = (ax_up σ.1 56 c, σ.2) → τ1 = (ax_up τ0.1 56 c', τ0.2) → τ1 = (ax_up σ.1 56 c', σ.2) := fun τ0 τ1 c c' h0 h1 => by rw [h1, h0]; simp only [ax_up2]
  have hTx0 : ∀ (τ : ax_S) (c : ax_C), τ = (ax_up σ.1 56 c, σ.2) → mt_At τ.1 n tx := fun τ c h => hTx.on (ax_kF h (by decide))
  -- a wrong end
  have WR : ∀ (τ : ax_S) j, j ≤ i + 20 → τ = mo_t σ g t w (nI gg) (nI b.2.1) (nI b.2.2.1) ac kp n j bg 1 se → sp_take n tx i b = none → im_Po σ g t w ac kp n tx bg se i b none τ := fun τ j h2 hτ h3 => ⟨rfl, it_fr.rf.up hτ (Or.inl rfl), j, h2, Or.inr ⟨_, _, _, ax_kS hτ, hN.any.on (fun q _ _ => ax_kF hτ (by omega)), h3⟩⟩
  refine ax_N.of (ls := [some (.ref 56), some (.int (nI ch)), none, none, none]) (by decide +kernel) rfl (Nat.le_of_ble_eq_true rfl) ?_
  refine ax_iload_n (pc' := 1) rfl dX8_item_0 rfl ?_
  refine ax_bipush (pc' := 3) (v := (nI 103)) kb_103 dX8_item_1 rfl ?_
  by_cases cg : ch = 103
  · subst cg
    refine ax_icmp_ne (pc' := 6) (tgt := 20) dX8_item_3 (by decide) rfl (fun hz => absurd (rfl) hz) (fun _ => ?_)
    refine ax_aload_n (pc' := 7) rfl dX8_item_6 rfl ?_
    refine ax_aload_n (pc' := 8) rfl dX8_item_7 rfl ?_
    refine ax_iconst (pc' := 9) (v := (nI 1)) kc_1 dX8_item_8 rfl ?_
    refine ax_bipush (pc' := 11) (v := (nI 99)) kb_99 dX8_item_9 rfl ?_
    refine ax_callVG (pc' := 14) lv_X8_131 (m_number (lo := 1) (H := 100) M_o hTx hT (by omega) (by decide) (by decide) (by decide)) M_o rfl rfl (Nat.le_of_ble_eq_true rfl) (Nat.le_of_ble_eq_true rfl) dX8_item_11 rfl (fun r1 s1 hr1 => ?_)
    obtain ⟨j, hj, ⟨v, e1, b1, b2, rfl, hτ⟩ | ⟨hbad, rfl, hτ⟩⟩ := hr1
    · have M_o := ax_kS hτ
      have hge := rn_ge e1
      refine ax_putu (pc' := 17) fp_X8_82 M_o rfl (fun _ => ⟨rfl, rfl⟩) dX8_item_14 rfl (fun s2 g2 => ?_)
      have M_o := ax_kS g2
      refine ax_goto (tgt := 246) dX8_item_17 (by decide) ?_
      exact ax_vret dX8_item_246 rfl (Nat.le_of_ble_eq_true rfl) (Nat.le_of_ble_eq_true rfl) (⟨rfl, (it_fr.rf.up hτ (Or.inl rfl)).up g2 (Or.inl rfl), j, by omega, Or.inl ⟨(40 * v, b.2), v, by omega, M_o, rfl, (hN.on (fun q _ _ => (ax_kF g2 (by omega)).trans (ax_kF hτ (by omega)))), tk_g hch e1 b1 (by omega)⟩⟩)
    · have M_o := ax_kS hτ
      have hnone : sp_take n tx i b = none := take_none (fun q h => by
        obtain ⟨v, j', e1, l1, b1, b2⟩ := inv_g hch h
        exact nu_no hbad e1 b1 (by omega) l1 (by decide))
      refine ax_putu (pc' := 17) fp_X8_82 M_o rfl (fun _ => ⟨rfl, rfl⟩) dX8_item_14 rfl (fun s2 g2 => ?_)
      have M_o := ax_kS g2
      refine ax_goto (tgt := 246) dX8_item_17 (by decide) ?_
      exact ax_vret dX8_item_246 rfl (Nat.le_of_ble_eq_true rfl) (Nat.le_of_ble_eq_true rfl) (⟨rfl, (it_fr.rf.up hτ (Or.inl rfl)).up g2 (Or.inl rfl), j, by omega, Or.inr ⟨_, _, _, M_o, hN.any.on (fun q _ _ => (ax_kF g2 (by omega)).trans (ax_kF hτ (by omega))), hnone⟩⟩)
  · refine ax_icmp_ne (pc' := 6) (tgt := 20) dX8_item_3 (by decide) rfl (fun _ => ?_) (fun hz => absurd hz (ne 103 (by decide) cg))
    refine ax_iload_n (pc' := 21) rfl dX8_item_20 rfl ?_
    refine ax_bipush (pc' := 23) (v := (nI 116)) kb_116 dX8_item_21 rfl ?_
    by_cases ct : ch = 116
    · subst ct
      refine ax_icmp_ne (pc' := 26) (tgt := 87) dX8_item_23 (by decide) rfl (fun hz => absurd (rfl) hz) (fun _ => ?_)
      refine ax_aload_n (pc' := 27) rfl dX8_item_26 rfl ?_
      refine ax_aload_n (pc' := 28) rfl dX8_item_27 rfl ?_
      refine ax_getf (pc' := 31) fl_X8_86 M_o rfl dX8_item_28 rfl ?_
      refine ax_bipush (pc' := 33) (v := (nI 6)) kb_6 dX8_item_31 rfl ?_
      -- wrong from 63 on
      have E : ∀ (τ : ax_S) j (z2 : Int32), j ≤ i + 10 → τ = mo_t σ g t w (nI gg) (nI b.2.1) (nI b.2.2.1) ac kp n j bg 1 se → sp_take n tx i b = none → ax_J (mX8_item, 3, 0, 0) 0 0 63 [some (.ref 56), some (.int (nI 116)), some (.int z2), none, none] [] τ (im_Po σ g t w ac kp n tx bg se i b) := by
        intro τ j z2 hj hτ hnone
        have M_o := ax_kS hτ
        refine ax_aload_n (pc' := 64) rfl dX8_item_63 rfl ?_
        refine ax_iconst (pc' := 65) (v := (nI 0)) kc_0 dX8_item_64 rfl ?_
        refine ax_bipush (pc' := 67) (v := (nI 8)) kb_8 dX8_item_65 rfl ?_
        refine ax_callVG (pc' := 70) lv_X8_135 (m_moreX M_o) M_o rfl rfl (Nat.le_of_ble_eq_true rfl) (Nat.le_of_ble_eq_true rfl) dX8_item_67 rfl (fun r1 s1 hr1 => ?_)
        obtain ⟨rfl, h1⟩ := hr1
        have M_o := ax_kS h1
        refine ax_istore_n (pc' := 71) rfl (Nat.le_of_ble_eq_true rfl) dX8_item_70 rfl ?_
        refine ax_aload_n (pc' := 72) rfl dX8_item_71 rfl ?_
        refine ax_getf (pc' := 75) fl_X8_127 M_o rfl dX8_item_72 rfl ?_
        refine ax_if_ne (pc' := 78) (tgt := 84) dX8_item_75 (by decide) rfl (fun _ => ?_) (fun hz => absurd hz (kz_1))
        refine ax_goto (tgt := 246) dX8_item_84 (by decide) ?_
        exact ax_vret dX8_item_246 rfl (Nat.le_of_ble_eq_true rfl) (Nat.le_of_ble_eq_true rfl) (WR s1 (j + 1) (by omega) (tt _ _ _ _ hτ h1) hnone)
      by_cases h6e : b.2.1 = 6
      · have hnone : sp_take n tx i b = none := take_none (fun q h => by
          obtain ⟨v1, j1, v2, j2, -, -, -, -, h7, -⟩ := inv_t hch h
          omega)
        refine ax_icmp_ne (pc' := 36) (tgt := 40) dX8_item_33 (by decide) rfl (fun hz => absurd (by rw [h6e]) hz) (fun _ => ?_)
        refine ax_iconst (pc' := 37) (v := (nI 1)) kc_1 dX8_item_36 rfl ?_
        refine ax_goto (tgt := 41) dX8_item_37 (by decide) ?_
        refine ax_putu (pc' := 44) fp_X8_127 M_o rfl (fun _ => ⟨rfl, rfl⟩) dX8_item_41 rfl (fun s1 g1 => ?_)
        have M_o := ax_kS g1
        refine ax_aload_n (pc' := 45) rfl dX8_item_44 rfl ?_
        refine ax_getf (pc' := 48) fl_X8_127 M_o rfl dX8_item_45 rfl ?_
        refine ax_if_eq (pc' := 51) (tgt := 55) dX8_item_48 (by decide) rfl (fun hz => absurd hz (kz_1)) (fun _ => ?_)
        refine ax_iconst (pc' := 52) (v := (nI 0)) kc_0 dX8_item_51 rfl ?_
        refine ax_goto (tgt := 62) dX8_item_52 (by decide) ?_
        refine ax_istore_n (pc' := 63) rfl (Nat.le_of_ble_eq_true rfl) dX8_item_62 rfl ?_
        exact E s1 (i + 1) _ (by omega) g1 hnone
      · refine ax_icmp_ne (pc' := 36) (tgt := 40) dX8_item_33 (by decide) rfl (fun _ => ?_) (fun hz => absurd hz (fun h => h6e ((nI_eq (by omega) (by decide)).mp h)))
        refine ax_iconst (pc' := 41) (v := (nI 0)) kc_0 dX8_item_40 rfl ?_
        refine ax_putu (pc' := 44) fp_X8_127 M_o rfl (fun _ => ⟨rfl, rfl⟩) dX8_item_41 rfl (fun s1 g1 => ?_)
        have M_o := ax_kS g1
        refine ax_aload_n (pc' := 45) rfl dX8_item_44 rfl ?_
        refine ax_getf (pc' := 48) fl_X8_127 M_o rfl dX8_item_45 rfl ?_
        refine ax_if_eq (pc' := 51) (tgt := 55) dX8_item_48 (by decide) rfl (fun _ => ?_) (fun hz => absurd (kz_0) hz)
        refine ax_aload_n (pc' := 56) rfl dX8_item_55 rfl ?_
        refine ax_iconst (pc' := 57) (v := (nI 0)) kc_0 dX8_item_56 rfl ?_
        refine ax_bipush (pc' := 59) (v := (nI 80)) kb_80 dX8_item_57 rfl ?_
        refine ax_callVG (pc' := 62) lv_X8_131 (m_number (lo := 0) (H := 81) M_o (hTx0 _ _ g1) hT (by omega) (by decide) (by decide) (by decide)) M_o rfl rfl (Nat.le_of_ble_eq_true rfl) (Nat.le_of_ble_eq_true rfl) dX8_item_59 rfl (fun r2 s2 hr2 => ?_)
        obtain ⟨j1, hj1, ⟨v1, e1, -, b1, rfl, hτ⟩ | ⟨hbad, rfl, hτ⟩⟩ := hr2
        · have hτ := tt _ _ _ _ g1 hτ
          have M_o := ax_kS hτ
          have hge1 := rn_ge e1
          refine ax_istore_n (pc' := 63) rfl (Nat.le_of_ble_eq_true rfl) dX8_item_62 rfl ?_
          refine ax_aload_n (pc' := 64) rfl dX8_item_63 rfl ?_
          refine ax_iconst (pc' := 65) (v := (nI 0)) kc_0 dX8_item_64 rfl ?_
          refine ax_bipush (pc' := 67) (v := (nI 8)) kb_8 dX8_item_65 rfl ?_
          refine ax_callVG (pc' := 70) lv_X8_135 (m_more (lo := 0) (H := 9) M_o (hTx0 _ _ hτ) hT (by omega) (by decide) (by decide) (by decide)) M_o rfl rfl (Nat.le_of_ble_eq_true rfl) (Nat.le_of_ble_eq_true rfl) dX8_item_67 rfl (fun r3 s3 hr3 => ?_)
          obtain ⟨j2, hj2, ⟨v2, l1, e2, -, b2, rfl, hτ3⟩ | ⟨hbad, rfl, hτ3⟩⟩ := hr3
          · have hτ3 := tt _ _ _ _ hτ hτ3
            have M_o := ax_kS hτ3
            have hge2 := rn_ge e2
            refine ax_istore_n (pc' := 71) rfl (Nat.le_of_ble_eq_true rfl) dX8_item_70 rfl ?_
            refine ax_aload_n (pc' := 72) rfl dX8_item_71 rfl ?_
            refine ax_getf (pc' := 75) fl_X8_127 M_o rfl dX8_item_72 rfl ?_
            refine ax_if_ne (pc' := 78) (tgt := 84) dX8_item_75 (by decide) rfl (fun hz => absurd (kz_0) hz) (fun _ => ?_)
            refine ax_aload_n (pc' := 79) rfl dX8_item_78 rfl ?_
            refine ax_iload_n (pc' := 80) rfl dX8_item_79 rfl ?_
            refine ax_iload_n (pc' := 81) rfl dX8_item_80 rfl ?_
            refine ax_callVG (pc' := 84) lv_X8_68 (m_lies (l := v1) (x := v2) M_o (hN.on (fun q _ _ => ax_kF hτ3 (by omega))) (by omega)) M_o rfl rfl (Nat.le_of_ble_eq_true rfl) (Nat.le_of_ble_eq_true rfl) dX8_item_81 rfl (fun r4 s4 hr4 => ?_)
            obtain ⟨rfl, M_o, hN4, hF4⟩ := hr4
            refine ax_goto (tgt := 246) dX8_item_84 (by decide) ?_
            exact ax_vret dX8_item_246 rfl (Nat.le_of_ble_eq_true rfl) (Nat.le_of_ble_eq_true rfl) (⟨rfl, (it_fr.rf.up hτ3 (Or.inl rfl)).tr hF4, j2, by omega, Or.inl ⟨sp_bT b v1 v2, gg, by omega, M_o, hgg, hN4, tk_t hch e1 l1 e2 (by omega) (by omega) (by omega)⟩⟩)
          · have hτ3 := tt _ _ _ _ hτ hτ3
            have M_o := ax_kS hτ3
            refine ax_istore_n (pc' := 71) rfl (Nat.le_of_ble_eq_true rfl) dX8_item_70 rfl ?_
            refine ax_aload_n (pc' := 72) rfl dX8_item_71 rfl ?_
            refine ax_getf (pc' := 75) fl_X8_127 M_o rfl dX8_item_72 rfl ?_
            refine ax_if_ne (pc' := 78) (tgt := 84) dX8_item_75 (by decide) rfl (fun _ => ?_) (fun hz => absurd hz (kz_1))
            refine ax_goto (tgt := 246) dX8_item_84 (by decide) ?_
            have hnone : sp_take n tx i b = none := take_none (fun q h => by
              obtain ⟨w1, k1, w2, k2, a1, a2, a3, a4, -, -, a5⟩ := inv_t hch h
              rw [e1] at a1
              cases a1
              exact nu_no (hbad a2) a3 (Nat.zero_le _) (by omega) a4 (by decide))
            exact ax_vret dX8_item_246 rfl (Nat.le_of_ble_eq_true rfl) (Nat.le_of_ble_eq_true rfl) (WR s3 j2 (by omega) hτ3 hnone)
        · have hτ := tt _ _ _ _ g1 hτ
          refine ax_istore_n (pc' := 63) rfl (Nat.le_of_ble_eq_true rfl) dX8_item_62 rfl ?_
          exact E s2 j1 _ (by omega) hτ (take_none (fun q h => by
            obtain ⟨w1, k1, w2, k2, a1, a2, a3, a4, -, a5, -⟩ := inv_t hch h
            exact nu_no hbad a1 (Nat.zero_le _) (by omega) a2 (by decide)))
    · refine ax_icmp_ne (pc' := 26) (tgt := 87) dX8_item_23 (by decide) rfl (fun _ => ?_) (fun hz => absurd hz (ne 116 (by decide) ct))
      refine ax_iload_n (pc' := 88) rfl dX8_item_87 rfl ?_
      refine ax_bipush (pc' := 90) (v := (nI 114)) kb_114 dX8_item_88 rfl ?_
      by_cases cr : ch = 114
      · subst cr
        have hHt : (nI b.2.1 - nI 1).toInt = (b.2.1 : Int) - 1 := pk_sub_toInt (by omega) (by decide)
        refine ax_icmp_ne (pc' := 93) (tgt := 165) dX8_item_90 (by decide) rfl (fun hz => absurd (rfl) hz) (fun _ => ?_)
        refine ax_aload_n (pc' := 94) rfl dX8_item_93 rfl ?_
        refine ax_iconst (pc' := 95) (v := (nI 0)) kc_0 dX8_item_94 rfl ?_
        refine ax_aload_n (pc' := 96) rfl dX8_item_95 rfl ?_
        refine ax_getf (pc' := 99) fl_X8_86 M_o rfl dX8_item_96 rfl ?_
        refine ax_iconst (pc' := 100) (v := (nI 1)) kc_1 dX8_item_99 rfl ?_
        refine ax_isub (pc' := 101) dX8_item_100 rfl ?_
        -- wrong from 126 on
        have E3 : ∀ (τ : ax_S) j (z2 z3 z4 : Int32), j ≤ i + 20 → τ = mo_t σ g t w (nI gg) (nI b.2.1) (nI b.2.2.1) ac kp n j bg 1 se → sp_take n tx i b = none → ax_J (mX8_item, 3, 0, 0) 0 0 126 [some (.ref 56), some (.int (nI 114)), some (.int z2), some (.int z3), some (.int z4)] [] τ (im_Po σ g t w ac kp n tx bg se i b) := by
          intro τ j z2 z3 z4 hj hτ hnone
          have M_o := ax_kS hτ
          refine ax_aload_n (pc' := 127) rfl dX8_item_126 rfl ?_
          refine ax_aload_n (pc' := 128) rfl dX8_item_127 rfl ?_
          refine ax_getf (pc' := 131) fl_X8_127 M_o rfl dX8_item_128 rfl ?_
          refine ax_if_ne (pc' := 134) (tgt := 139) dX8_item_131 (by decide) rfl (fun _ => ?_) (fun hz => absurd hz (kz_1))
          refine ax_iconst (pc' := 140) (v := (nI 1)) kc_1 dX8_item_139 rfl ?_
          refine ax_goto (tgt := 144) dX8_item_140 (by decide) ?_
          refine ax_putu (pc' := 147) fp_X8_127 M_o rfl (fun _ => ⟨rfl, rfl⟩) dX8_item_144 rfl (fun s1 g1 => ?_)
          have M_o := ax_kS g1
          refine ax_aload_n (pc' := 148) rfl dX8_item_147 rfl ?_
          refine ax_getf (pc' := 151) fl_X8_127 M_o rfl dX8_item_148 rfl ?_
          refine ax_if_ne (pc' := 154) (tgt := 162) dX8_item_151 (by decide) rfl (fun _ => ?_) (fun hz => absurd hz (kz_1))
          refine ax_goto (tgt := 246) dX8_item_162 (by decide) ?_
          exact ax_vret dX8_item_246 rfl (Nat.le_of_ble_eq_true rfl) (Nat.le_of_ble_eq_true rfl) (WR s1 j hj (tt _ _ _ _ hτ g1) hnone)
        have E2 : ∀ (τ : ax_S) j (z2 z3 : Int32), j ≤ i + 15 → τ = mo_t σ g t w (nI gg) (nI b.2.1) (nI b.2.2.1) ac kp n j bg 1 se → sp_take n tx i b = none → ax_J (mX8_item, 3, 0, 0) 0 0 117 [some (.ref 56), some (.int (nI 114)), some (.int z2), some (.int z3), none] [] τ (im_Po σ g t w ac kp n tx bg se i b) := by
          intro τ j z2 z3 hj hτ hnone
          have M_o := ax_kS hτ
          refine ax_aload_n (pc' := 118) rfl dX8_item_117 rfl ?_
          refine ax_iconst (pc' := 119) (v := (nI 0)) kc_0 dX8_item_118 rfl ?_
          refine ax_bipush (pc' := 121) (v := (nI 50)) kb_50 dX8_item_119 rfl ?_
          refine ax_callVG (pc' := 124) lv_X8_135 (m_moreX M_o) M_o rfl rfl (Nat.le_of_ble_eq_true rfl) (Nat.le_of_ble_eq_true rfl) dX8_item_121 rfl (fun r1 s1 hr1 => ?_)
          obtain ⟨rfl, h1⟩ := hr1
          refine ax_istore (pc' := 126) rfl (Nat.le_of_ble_eq_true rfl) dX8_item_124 rfl ?_
          exact E3 s1 (j + 1) _ _ _ (by omega) (tt _ _ _ _ hτ h1) hnone
        refine ax_callVG (pc' := 104) lv_X8_131 (m_number (lo := 0) (H := b.2.1) M_o hTx hT (by omega) (by decide) (by omega) hHt) M_o rfl rfl (Nat.le_of_ble_eq_true rfl) (Nat.le_of_ble_eq_true rfl) dX8_item_101 rfl (fun r2 s2 hr2 => ?_)
        obtain ⟨j1, hj1, ⟨v1, e1, -, b1, rfl, hτ⟩ | ⟨hbad, rfl, hτ⟩⟩ := hr2
        · have M_o := ax_kS hτ
          have hge1 := rn_ge e1
          refine ax_istore_n (pc' := 105) rfl (Nat.le_of_ble_eq_true rfl) dX8_item_104 rfl ?_
          refine ax_aload_n (pc' := 106) rfl dX8_item_105 rfl ?_
          refine ax_iconst (pc' := 107) (v := (nI 0)) kc_0 dX8_item_106 rfl ?_
          refine ax_aload_n (pc' := 108) rfl dX8_item_107 rfl ?_
          refine ax_getf (pc' := 111) fl_X8_86 M_o rfl dX8_item_108 rfl ?_
          refine ax_iconst (pc' := 112) (v := (nI 1)) kc_1 dX8_item_111 rfl ?_
          refine ax_isub (pc' := 113) dX8_item_112 rfl ?_
          refine ax_callVG (pc' := 116) lv_X8_135 (m_more (lo := 0) (H := b.2.1) M_o (hTx0 _ _ hτ) hT (by omega) (by decide) (by omega) hHt) M_o rfl rfl (Nat.le_of_ble_eq_true rfl) (Nat.le_of_ble_eq_true rfl) dX8_item_113 rfl (fun r3 s3 hr3 => ?_)
          obtain ⟨j2, hj2, ⟨v2, l1, e2, -, b2, rfl, hτ3⟩ | ⟨hbad, rfl, hτ3⟩⟩ := hr3
          · have hτ3 := tt _ _ _ _ hτ hτ3
            have M_o := ax_kS hτ3
            have hge2 := rn_ge e2
            refine ax_istore_n (pc' := 117) rfl (Nat.le_of_ble_eq_true rfl) dX8_item_116 rfl ?_
            refine ax_aload_n (pc' := 118) rfl dX8_item_117 rfl ?_
            refine ax_iconst (pc' := 119) (v := (nI 0)) kc_0 dX8_item_118 rfl ?_
            refine ax_bipush (pc' := 121) (v := (nI 50)) kb_50 dX8_item_119 rfl ?_
            refine ax_callVG (pc' := 124) lv_X8_135 (m_more (lo := 0) (H := 51) M_o (hTx0 _ _ hτ3) hT (by omega) (by decide) (by decide) (by decide)) M_o rfl rfl (Nat.le_of_ble_eq_true rfl) (Nat.le_of_ble_eq_true rfl) dX8_item_121 rfl (fun r4 s4 hr4 => ?_)
            obtain ⟨j3, hj3, ⟨v3, l2, e3, -, b3, rfl, hτ4⟩ | ⟨hbad, rfl, hτ4⟩⟩ := hr4
            · have hτ4 := tt _ _ _ _ hτ3 hτ4
              have M_o := ax_kS hτ4
              have hge3 := rn_ge e3
              refine ax_istore (pc' := 126) rfl (Nat.le_of_ble_eq_true rfl) dX8_item_124 rfl ?_
              refine ax_aload_n (pc' := 127) rfl dX8_item_126 rfl ?_
              refine ax_aload_n (pc' := 128) rfl dX8_item_127 rfl ?_
              refine ax_getf (pc' := 131) fl_X8_127 M_o rfl dX8_item_128 rfl ?_
              refine ax_if_ne (pc' := 134) (tgt := 139) dX8_item_131 (by decide) rfl (fun hz => absurd (kz_0) hz) (fun _ => ?_)
              refine ax_iload_n (pc' := 135) rfl dX8_item_134 rfl ?_
              refine ax_iload_n (pc' := 136) rfl dX8_item_135 rfl ?_
              by_cases hv : v1 = v2
              · refine ax_icmp_ne (pc' := 139) (tgt := 143) dX8_item_136 (by decide) rfl (fun hz => absurd (by rw [hv]) hz) (fun _ => ?_)
                refine ax_iconst (pc' := 140) (v := (nI 1)) kc_1 dX8_item_139 rfl ?_
                refine ax_goto (tgt := 144) dX8_item_140 (by decide) ?_
                refine ax_putu (pc' := 147) fp_X8_127 M_o rfl (fun _ => ⟨rfl, rfl⟩) dX8_item_144 rfl (fun s5 g5 => ?_)
                have M_o := ax_kS g5
                refine ax_aload_n (pc' := 148) rfl dX8_item_147 rfl ?_
                refine ax_getf (pc' := 151) fl_X8_127 M_o rfl dX8_item_148 rfl ?_
                refine ax_if_ne (pc' := 154) (tgt := 162) dX8_item_151 (by decide) rfl (fun _ => ?_) (fun hz => absurd hz (kz_1))
                refine ax_goto (tgt := 246) dX8_item_162 (by decide) ?_
                have hnone : sp_take n tx i b = none := take_none (fun q h => by
                  obtain ⟨w1, k1, w2, k2, w3, k3, a1, a2, a3, a4, a5, a6, -, -, a7, -⟩ := inv_r hch h
                  rw [e1] at a1
                  cases a1
                  rw [e2] at a3
                  cases a3
                  exact a7 hv)
                exact ax_vret dX8_item_246 rfl (Nat.le_of_ble_eq_true rfl) (Nat.le_of_ble_eq_true rfl) (WR s5 j3 (by omega) (tt _ _ _ _ hτ4 g5) hnone)
              · refine ax_icmp_ne (pc' := 139) (tgt := 143) dX8_item_136 (by decide) rfl (fun _ => ?_) (fun hz => absurd hz (fun h => hv ((nI_eq (by omega) (by omega)).mp h)))
                refine ax_iconst (pc' := 144) (v := (nI 0)) kc_0 dX8_item_143 rfl ?_
                refine ax_putu (pc' := 147) fp_X8_127 M_o rfl (fun _ => ⟨rfl, rfl⟩) dX8_item_144 rfl (fun s5 g5 => ?_)
                have M_o := ax_kS g5
                have hτ5 := tt _ _ _ _ hτ4 g5
                refine ax_aload_n (pc' := 148) rfl dX8_item_147 rfl ?_
                refine ax_getf (pc' := 151) fl_X8_127 M_o rfl dX8_item_148 rfl ?_
                refine ax_if_ne (pc' := 154) (tgt := 162) dX8_item_151 (by decide) rfl (fun hz => absurd (kz_0) hz) (fun _ => ?_)
                refine ax_aload_n (pc' := 155) rfl dX8_item_154 rfl ?_
                refine ax_iload_n (pc' := 156) rfl dX8_item_155 rfl ?_
                refine ax_iload_n (pc' := 157) rfl dX8_item_156 rfl ?_
                refine ax_iload (pc' := 159) rfl dX8_item_157 rfl ?_
                refine ax_callVG (pc' := 162) lv_X8_72 (m_bends (a := v1) (c := v2) (r := v3) M_o (hN.on (fun q _ _ => ax_kF hτ5 (by omega))) (by omega) (by omega)) M_o rfl rfl (Nat.le_of_ble_eq_true rfl) (Nat.le_of_ble_eq_true rfl) dX8_item_159 rfl (fun r6 s6 hr6 => ?_)
                obtain ⟨rfl, M_o, hN6, hF6⟩ := hr6
                refine ax_goto (tgt := 246) dX8_item_162 (by decide) ?_
                exact ax_vret dX8_item_246 rfl (Nat.le_of_ble_eq_true rfl) (Nat.le_of_ble_eq_true rfl) (⟨rfl, (it_fr.rf.up hτ5 (Or.inl rfl)).tr hF6, j3, by omega, Or.inl ⟨sp_bR b v1 v2 v3, gg, by omega, M_o, hgg, hN6, tk_r hch e1 l1 e2 l2 e3 b1 b2 hv (by omega)⟩⟩)
            · have hτ4 := tt _ _ _ _ hτ3 hτ4
              refine ax_istore (pc' := 126) rfl (Nat.le_of_ble_eq_true rfl) dX8_item_124 rfl ?_
              exact E3 s4 j3 _ _ _ (by omega) hτ4 (take_none (fun q h => by
                obtain ⟨w1, k1, w2, k2, w3, k3, a1, a2, a3, a4, a5, a6, -, -, -, a7⟩ := inv_r hch h
                rw [e1] at a1
                cases a1
                rw [e2] at a3
                cases a3
                exact nu_no (hbad a4) a5 (Nat.zero_le _) (by omega) a6 (by decide)))
          · have hτ3 := tt _ _ _ _ hτ hτ3
            refine ax_istore_n (pc' := 117) rfl (Nat.le_of_ble_eq_true rfl) dX8_item_116 rfl ?_
            exact E2 s3 j2 _ _ (by omega) hτ3 (take_none (fun q h => by
              obtain ⟨w1, k1, w2, k2, w3, k3, a1, a2, a3, a4, a5, a6, -, a7, -, -⟩ := inv_r hch h
              rw [e1] at a1
              cases a1
              exact nu_no (hbad a2) a3 (Nat.zero_le _) a7 a4 (by decide)))
        · have M_o := ax_kS hτ
          refine ax_istore_n (pc' := 105) rfl (Nat.le_of_ble_eq_true rfl) dX8_item_104 rfl ?_
          refine ax_aload_n (pc' := 106) rfl dX8_item_105 rfl ?_
          refine ax_iconst (pc' := 107) (v := (nI 0)) kc_0 dX8_item_106 rfl ?_
          refine ax_aload_n (pc' := 108) rfl dX8_item_107 rfl ?_
          refine ax_getf (pc' := 111) fl_X8_86 M_o rfl dX8_item_108 rfl ?_
          refine ax_iconst (pc' := 112) (v := (nI 1)) kc_1 dX8_item_111 rfl ?_
          refine ax_isub (pc' := 113) dX8_item_112 rfl ?_
          refine ax_callVG (pc' := 116) lv_X8_135 (m_moreX M_o) M_o rfl rfl (Nat.le_of_ble_eq_true rfl) (Nat.le_of_ble_eq_true rfl) dX8_item_113 rfl (fun r3 s3 hr3 => ?_)
          obtain ⟨rfl, h3⟩ := hr3
          refine ax_istore_n (pc' := 117) rfl (Nat.le_of_ble_eq_true rfl) dX8_item_116 rfl ?_
          exact E2 s3 (j1 + 1) _ _ (by omega) (tt _ _ _ _ hτ h3) (take_none (fun q h => by
            obtain ⟨w1, k1, w2, k2, w3, k3, a1, a2, a3, a4, a5, a6, a7, -, -, -⟩ := inv_r hch h
            exact nu_no hbad a1 (Nat.zero_le _) a7 a2 (by decide)))
      · refine ax_icmp_ne (pc' := 93) (tgt := 165) dX8_item_90 (by decide) rfl (fun _ => ?_) (fun hz => absurd hz (ne 114 (by decide) cr))
        refine ax_iload_n (pc' := 166) rfl dX8_item_165 rfl ?_
        refine ax_bipush (pc' := 168) (v := (nI 119)) kb_119 dX8_item_166 rfl ?_
        by_cases cw : ch = 119
        · subst cw
          refine ax_icmp_ne (pc' := 171) (tgt := 241) dX8_item_168 (by decide) rfl (fun hz => absurd (rfl) hz) (fun _ => ?_)
          refine ax_aload_n (pc' := 172) rfl dX8_item_171 rfl ?_
          refine ax_aload_n (pc' := 173) rfl dX8_item_172 rfl ?_
          refine ax_getf (pc' := 176) fl_X8_89 M_o rfl dX8_item_173 rfl ?_
          refine ax_iconst (pc' := 177) (v := (nI 4)) kc_4 dX8_item_176 rfl ?_
          -- wrong from 223 on
          have E3 : ∀ (τ : ax_S) j (z2 z3 z4 : Int32), j ≤ i + 20 → τ = mo_t σ g t w (nI gg) (nI b.2.1) (nI b.2.2.1) ac kp n j bg 1 se → sp_take n tx i b = none → ax_J (mX8_item, 3, 0, 0) 0 0 223 [some (.ref 56), some (.int (nI 119)), some (.int z2), some (.int z3), some (.int z4)] [] τ (im_Po σ g t w ac kp n tx bg se i b) := by
            intro τ j z2 z3 z4 hj hτ hnone
            have M_o := ax_kS hτ
            refine ax_aload_n (pc' := 224) rfl dX8_item_223 rfl ?_
            refine ax_getf (pc' := 227) fl_X8_127 M_o rfl dX8_item_224 rfl ?_
            refine ax_if_ne (pc' := 230) (tgt := 238) dX8_item_227 (by decide) rfl (fun _ => ?_) (fun hz => absurd hz (kz_1))
            refine ax_goto (tgt := 246) dX8_item_238 (by decide) ?_
            exact ax_vret dX8_item_246 rfl (Nat.le_of_ble_eq_true rfl) (Nat.le_of_ble_eq_true rfl) (WR τ j hj hτ hnone)
          have E2 : ∀ (τ : ax_S) j (z2 z3 : Int32), j ≤ i + 15 → τ = mo_t σ g t w (nI gg) (nI b.2.1) (nI b.2.2.1) ac kp n j bg 1 se → sp_take n tx i b = none → ax_J (mX8_item, 3, 0, 0) 0 0 214 [some (.ref 56), some (.int (nI 119)), some (.int z2), some (.int z3), none] [] τ (im_Po σ g t w ac kp n tx bg se i b) := by
            intro τ j z2 z3 hj hτ hnone
            have M_o := ax_kS hτ
            refine ax_aload_n (pc' := 215) rfl dX8_item_214 rfl ?_
            refine ax_iconst (pc' := 216) (v := (nI 1)) kc_1 dX8_item_215 rfl ?_
            refine ax_bipush (pc' := 218) (v := (nI 9)) kb_9 dX8_item_216 rfl ?_
            refine ax_callVG (pc' := 221) lv_X8_135 (m_moreX M_o) M_o rfl rfl (Nat.le_of_ble_eq_true rfl) (Nat.le_of_ble_eq_true rfl) dX8_item_218 rfl (fun r1 s1 hr1 => ?_)
            obtain ⟨rfl, h1⟩ := hr1
            refine ax_istore (pc' := 223) rfl (Nat.le_of_ble_eq_true rfl) dX8_item_221 rfl ?_
            exact E3 s1 (j + 1) _ _ _ (by omega) (tt _ _ _ _ hτ h1) hnone
          have E1 : ∀ (τ : ax_S) j (z2 : Int32), j ≤ i + 10 → τ = mo_t σ g t w (nI gg) (nI b.2.1) (nI b.2.2.1) ac kp n j bg 1 se → sp_take n tx i b = none → ax_J (mX8_item, 3, 0, 0) 0 0 206 [some (.ref 56), some (.int (nI 119)), some (.int z2), none, none] [] τ (im_Po σ g t w ac kp n tx bg se i b) := by
            intro τ j z2 hj hτ hnone
            have M_o := ax_kS hτ
            refine ax_aload_n (pc' := 207) rfl dX8_item_206 rfl ?_
            refine ax_iconst (pc' := 208) (v := (nI 1)) kc_1 dX8_item_207 rfl ?_
            refine ax_bipush (pc' := 210) (v := (nI 40)) kb_40 dX8_item_208 rfl ?_
            refine ax_callVG (pc' := 213) lv_X8_135 (m_moreX M_o) M_o rfl rfl (Nat.le_of_ble_eq_true rfl) (Nat.le_of_ble_eq_true rfl) dX8_item_210 rfl (fun r1 s1 hr1 => ?_)
            obtain ⟨rfl, h1⟩ := hr1
            refine ax_istore_n (pc' := 214) rfl (Nat.le_of_ble_eq_true rfl) dX8_item_213 rfl ?_
            exact E2 s1 (j + 1) _ _ (by omega) (tt _ _ _ _ hτ h1) hnone
          by_cases h4e : b.2.2.1 = 4
          · have hnone : sp_take n tx i b = none := take_none (fun q h => by
              obtain ⟨v1, j1, v2, j2, v3, j3, -, -, -, -, -, -, h7, -⟩ := inv_w hch h
              omega)
            refine ax_icmp_ne (pc' := 180) (tgt := 184) dX8_item_177 (by decide) rfl (fun hz => absurd (by rw [h4e]) hz) (fun _ => ?_)
            refine ax_iconst (pc' := 181) (v := (nI 1)) kc_1 dX8_item_180 rfl ?_
            refine ax_goto (tgt := 185) dX8_item_181 (by decide) ?_
            refine ax_putu (pc' := 188) fp_X8_127 M_o rfl (fun _ => ⟨rfl, rfl⟩) dX8_item_185 rfl (fun s1 g1 => ?_)
            have M_o := ax_kS g1
            refine ax_aload_n (pc' := 189) rfl dX8_item_188 rfl ?_
            refine ax_getf (pc' := 192) fl_X8_127 M_o rfl dX8_item_189 rfl ?_
            refine ax_if_eq (pc' := 195) (tgt := 199) dX8_item_192 (by decide) rfl (fun hz => absurd hz (kz_1)) (fun _ => ?_)
            refine ax_iconst (pc' := 196) (v := (nI 0)) kc_0 dX8_item_195 rfl ?_
            refine ax_goto (tgt := 205) dX8_item_196 (by decide) ?_
            refine ax_istore_n (pc' := 206) rfl (Nat.le_of_ble_eq_true rfl) dX8_item_205 rfl ?_
            exact E1 s1 (i + 1) _ (by omega) g1 hnone
          · refine ax_icmp_ne (pc' := 180) (tgt := 184) dX8_item_177 (by decide) rfl (fun _ => ?_) (fun hz => absurd hz (fun h => h4e ((nI_eq (by omega) (by decide)).mp h)))
            refine ax_iconst (pc' := 185) (v := (nI 0)) kc_0 dX8_item_184 rfl ?_
            refine ax_putu (pc' := 188) fp_X8_127 M_o rfl (fun _ => ⟨rfl, rfl⟩) dX8_item_185 rfl (fun s1 g1 => ?_)
            have M_o := ax_kS g1
            refine ax_aload_n (pc' := 189) rfl dX8_item_188 rfl ?_
            refine ax_getf (pc' := 192) fl_X8_127 M_o rfl dX8_item_189 rfl ?_
            refine ax_if_eq (pc' := 195) (tgt := 199) dX8_item_192 (by decide) rfl (fun _ => ?_) (fun hz => absurd (kz_0) hz)
            refine ax_aload_n (pc' := 200) rfl dX8_item_199 rfl ?_
            refine ax_iconst (pc' := 201) (v := (nI 0)) kc_0 dX8_item_200 rfl ?_
            refine ax_iconst (pc' := 202) (v := (nI 3)) kc_3 dX8_item_201 rfl ?_
            refine ax_callVG (pc' := 205) lv_X8_131 (m_number (lo := 0) (H := 4) M_o (hTx0 _ _ g1) hT (by omega) (by decide) (by decide) (by decide)) M_o rfl rfl (Nat.le_of_ble_eq_true rfl) (Nat.le_of_ble_eq_true rfl) dX8_item_202 rfl (fun r2 s2 hr2 => ?_)
            obtain ⟨j1, hj1, ⟨v1, e1, -, b1, rfl, hτ⟩ | ⟨hbad, rfl, hτ⟩⟩ := hr2
            · have hτ := tt _ _ _ _ g1 hτ
              have M_o := ax_kS hτ
              have hge1 := rn_ge e1
              refine ax_istore_n (pc' := 206) rfl (Nat.le_of_ble_eq_true rfl) dX8_item_205 rfl ?_
              refine ax_aload_n (pc' := 207) rfl dX8_item_206 rfl ?_
              refine ax_iconst (pc' := 208) (v := (nI 1)) kc_1 dX8_item_207 rfl ?_
              refine ax_bipush (pc' := 210) (v := (nI 40)) kb_40 dX8_item_208 rfl ?_
              refine ax_callVG (pc' := 213) lv_X8_135 (m_more (lo := 1) (H := 41) M_o (hTx0 _ _ hτ) hT (by omega) (by decide) (by decide) (by decide)) M_o rfl rfl (Nat.le_of_ble_eq_true rfl) (Nat.le_of_ble_eq_true rfl) dX8_item_210 rfl (fun r3 s3 hr3 => ?_)
              obtain ⟨j2, hj2, ⟨v2, l1, e2, b20, b2, rfl, hτ3⟩ | ⟨hbad, rfl, hτ3⟩⟩ := hr3
              · have hτ3 := tt _ _ _ _ hτ hτ3
                have M_o := ax_kS hτ3
                have hge2 := rn_ge e2
                refine ax_istore_n (pc' := 214) rfl (Nat.le_of_ble_eq_true rfl) dX8_item_213 rfl ?_
                refine ax_aload_n (pc' := 215) rfl dX8_item_214 rfl ?_
                refine ax_iconst (pc' := 216) (v := (nI 1)) kc_1 dX8_item_215 rfl ?_
                refine ax_bipush (pc' := 218) (v := (nI 9)) kb_9 dX8_item_216 rfl ?_
                refine ax_callVG (pc' := 221) lv_X8_135 (m_more (lo := 1) (H := 10) M_o (hTx0 _ _ hτ3) hT (by omega) (by decide) (by decide) (by decide)) M_o rfl rfl (Nat.le_of_ble_eq_true rfl) (Nat.le_of_ble_eq_true rfl) dX8_item_218 rfl (fun r4 s4 hr4 => ?_)
                obtain ⟨j3, hj3, ⟨v3, l2, e3, b30, b3, rfl, hτ4⟩ | ⟨hbad, rfl, hτ4⟩⟩ := hr4
                · have hτ4 := tt _ _ _ _ hτ3 hτ4
                  have M_o := ax_kS hτ4
                  have hge3 := rn_ge e3
                  refine ax_istore (pc' := 223) rfl (Nat.le_of_ble_eq_true rfl) dX8_item_221 rfl ?_
                  refine ax_aload_n (pc' := 224) rfl dX8_item_223 rfl ?_
                  refine ax_getf (pc' := 227) fl_X8_127 M_o rfl dX8_item_224 rfl ?_
                  refine ax_if_ne (pc' := 230) (tgt := 238) dX8_item_227 (by decide) rfl (fun hz => absurd (kz_0) hz) (fun _ => ?_)
                  refine ax_aload_n (pc' := 231) rfl dX8_item_230 rfl ?_
                  refine ax_iload_n (pc' := 232) rfl dX8_item_231 rfl ?_
                  refine ax_iload_n (pc' := 233) rfl dX8_item_232 rfl ?_
                  refine ax_iload (pc' := 235) rfl dX8_item_233 rfl ?_
                  refine ax_callVG (pc' := 238) lv_X8_76 (m_goes (kd := v1) (pa := v2) (u := v3) M_o (hN.on (fun q _ _ => ax_kF hτ4 (by omega))) (by omega)) M_o rfl rfl (Nat.le_of_ble_eq_true rfl) (Nat.le_of_ble_eq_true rfl) dX8_item_235 rfl (fun r6 s6 hr6 => ?_)
                  obtain ⟨rfl, M_o, hN6, hF6⟩ := hr6
                  refine ax_goto (tgt := 246) dX8_item_238 (by decide) ?_
                  exact ax_vret dX8_item_246 rfl (Nat.le_of_ble_eq_true rfl) (Nat.le_of_ble_eq_true rfl) (⟨rfl, (it_fr.rf.up hτ4 (Or.inl rfl)).tr hF6, j3, by omega, Or.inl ⟨sp_bW b v1 v2 v3, gg, by omega, M_o, hgg, hN6, tk_w hch e1 l1 e2 l2 e3 (by omega) (by omega) ⟨b20, by omega⟩ ⟨b30, by omega⟩⟩⟩)
                · have hτ4 := tt _ _ _ _ hτ3 hτ4
                  refine ax_istore (pc' := 223) rfl (Nat.le_of_ble_eq_true rfl) dX8_item_221 rfl ?_
                  exact E3 s4 j3 _ _ _ (by omega) hτ4 (take_none (fun q h => by
                    obtain ⟨w1, k1, w2, k2, w3, k3, a1, a2, a3, a4, a5, a6, -, -, -, a7, a8⟩ := inv_w hch h
                    rw [e1] at a1
                    cases a1
                    rw [e2] at a3
                    cases a3
                    exact nu_no (hbad a4) a5 a7 (by omega) a6 (by decide)))
              · have hτ3 := tt _ _ _ _ hτ hτ3
                refine ax_istore_n (pc' := 214) rfl (Nat.le_of_ble_eq_true rfl) dX8_item_213 rfl ?_
                exact E2 s3 j2 _ _ (by omega) hτ3 (take_none (fun q h => by
                  obtain ⟨w1, k1, w2, k2, w3, k3, a1, a2, a3, a4, a5, a6, -, -, a7, -, -⟩ := inv_w hch h
                  rw [e1] at a1
                  cases a1
                  exact nu_no (hbad a2) a3 a7.1 (by omega) a4 (by decide)))
            · have hτ := tt _ _ _ _ g1 hτ
              refine ax_istore_n (pc' := 206) rfl (Nat.le_of_ble_eq_true rfl) dX8_item_205 rfl ?_
              exact E1 s2 j1 _ (by omega) hτ (take_none (fun q h => by
                obtain ⟨w1, k1, w2, k2, w3, k3, a1, a2, a3, a4, a5, a6, -, a7, -, -, -⟩ := inv_w hch h
                exact nu_no hbad a1 (Nat.zero_le _) (by omega) a2 (by decide)))
        · refine ax_icmp_ne (pc' := 171) (tgt := 241) dX8_item_168 (by decide) rfl (fun _ => ?_) (fun hz => absurd hz (ne 119 (by decide) cw))
          refine ax_aload_n (pc' := 242) rfl dX8_item_241 rfl ?_
          refine ax_iconst (pc' := 243) (v := (nI 1)) kc_1 dX8_item_242 rfl ?_
          refine ax_putu (pc' := 246) fp_X8_127 M_o rfl (fun _ => ⟨rfl, rfl⟩) dX8_item_243 rfl (fun s1 g1 => ?_)
          have M_o := ax_kS g1
          have hnone : sp_take n tx i b = none := take_none (fun q h => by
            obtain ⟨p, -, h2⟩ := take_inv h
            rw [hch] at h2
            unfold sp_item at h2
            rw [if_neg cg, if_neg ct, if_neg cr, if_neg cw] at h2
            cases h2)
          exact ax_vret dX8_item_246 rfl (Nat.le_of_ble_eq_true rfl) (Nat.le_of_ble_eq_true rfl) (WR s1 (i + 1) (by omega) g1 hnone)
end MT
