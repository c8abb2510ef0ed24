/-! ===== the model reads the text ===== -/
def pk_v (n : Nat) (tx : Nat → Nat) (i : Nat) : Int32 := if i < n then nI (tx i) else -1
section MR
variable {σ : ax_S} {g t w ng nt nw ac kp bg se : Int32} {n : Nat} {tx : Nat → Nat}
theorem pk_v_eq {i c : Nat} (hT : sp_tok n tx) (hc : 0 < c) (hc2 : c ≤ 126) : pk_v n tx i = nI c ↔ sp_lt n tx i = c := by
  unfold pk_v sp_lt
  by_cases h : i < n
  · rw [if_pos h, if_pos h]
    have := hT.2 i
    exact nI_eq (by omega) (by omega)
  · rw [if_neg h, if_neg h]
    constructor
    · intro e
      exact absurd (show nI c < 0 by rw [← e]; decide) (nI_pos (by omega))
    · intro e
      omega
theorem m_peek {i : Nat} {wr : Int32} (M_o : σ.1 56 = some (.inr (8, mo_f g t w ng nt nw ac kp (nI n) (nI i) bg wr se))) (hTx : mt_At σ.1 n tx) (hT : sp_tok n tx) (hi : i < 2 ^ 31) : ax_R mX8_peek 0 [.ref 56] σ (.int (pk_v n tx i)) := by
  obtain ⟨f, M_text, hf⟩ := hTx
  have h2 := hT.1
  refine ax_N.of (ls := [some (.ref 56)]) (by decide +kernel) rfl (Nat.le_of_ble_eq_true rfl) ?_
  refine ax_aload_n (pc' := 1) rfl dX8_peek_0 rfl ?_
  refine ax_getf (pc' := 4) fl_X8_116 M_o rfl dX8_peek_1 rfl ?_
  refine ax_aload_n (pc' := 5) rfl dX8_peek_4 rfl ?_
  refine ax_getf (pc' := 8) fl_X8_113 M_o rfl dX8_peek_5 rfl ?_
  by_cases h : i < n
  · refine ax_icmp_ge (pc' := 11) (tgt := 23) dX8_peek_8 (by decide) rfl (fun hz => absurd hz (nI_ge h (by omega))) (fun _ => ?_)
    refine ax_aload_n (pc' := 12) rfl dX8_peek_11 rfl ?_
    refine ax_getf (pc' := 15) fl_X8_49 M_o rfl dX8_peek_12 rfl ?_
    refine ax_aload_n (pc' := 16) rfl dX8_peek_15 rfl ?_
    refine ax_getf (pc' := 19) fl_X8_116 M_o rfl dX8_peek_16 rfl ?_
    refine ax_bald (pc' := 20) M_text rfl (by omega) (by first | decide | assumption | omega) dX8_peek_19 rfl ?_
    refine ax_goto (tgt := 24) dX8_peek_20 (by decide) ?_
    exact ax_iret dX8_peek_24 rfl (Nat.le_of_ble_eq_true rfl) (Nat.le_of_ble_eq_true rfl) (⟨by rw [hf i h, pk_v, if_pos h], rfl⟩)
  · refine ax_icmp_ge (pc' := 11) (tgt := 23) dX8_peek_8 (by decide) rfl (fun _ => ?_) (fun hz => absurd (nI_le (by omega) hi) hz)
    refine ax_iconst (pc' := 24) (v := (-1)) kc_m1 dX8_peek_23 rfl ?_
    exact ax_iret dX8_peek_24 rfl (Nat.le_of_ble_eq_true rfl) (Nat.le_of_ble_eq_true rfl) (⟨by rw [pk_v, if_neg h], rfl⟩)
theorem m_digT {i : Nat} (hT : sp_tok n tx) (h : sp_dig (sp_lt n tx i) = true) : ax_R mX8_in 0 [.long (pk_v n tx i).toInt64, .long (lN 48), .long (lN 57)] σ (.int (nI 1)) ∧ pk_v n tx i = nI (sp_lt n tx i) := by
  have e := sp_dig_le h
  have hv : pk_v n tx i = nI (sp_lt n tx i) := (pk_v_eq hT (by omega) (sp_lt_le hT i)).mpr rfl
  rw [hv]
  exact ⟨m_isT (by decide) (by decide) (nI_le e.1 (by omega)) (nI_le e.2 (by decide)), rfl⟩
theorem m_digF {i : Nat} (hT : sp_tok n tx) (h : ¬ sp_dig (sp_lt n tx i) = true) : ax_R mX8_in 0 [.long (pk_v n tx i).toInt64, .long (lN 48), .long (lN 57)] σ (.int (nI 0)) := by
  refine m_isF (by decide) (by decide) (fun q => h ?_)
  unfold pk_v at q
  by_cases hi : i < n
  · have := hT.2 i
    rw [if_pos hi] at q
    have e1 := (nI_leI (by omega) (by omega)).mp q.1
    have e2 := (nI_leI (by omega) (by omega)).mp q.2
    simp [sp_dig, sp_lt, hi, e1, e2]
  · rw [if_neg hi] at q
    exact absurd q.1 (by decide)
abbrev mo_t (σ : ax_S) (g t w ng nt nw ac kp : Int32) (n : Nat) (j : Nat) (bg : Int32) (wr : Nat) (se : Int32) : ax_S := (ax_up σ.1 56 (.inr (8, mo_f g t w ng nt nw ac kp (nI n) (nI j) bg (nI wr) se)), σ.2)
def nu_bad (n : Nat) (tx : Nat → Nat) (i lo H : Nat) : Prop := ∀ v j, sp_rn n tx i = (some v, j) → lo ≤ v → v < H → sp_dig (sp_lt n tx j) = true
theorem m_number {i lo H : Nat} {hv : Int32} (M_o : σ.1 56 = some (.inr (8, mo_f g t w ng nt nw ac kp (nI n) (nI i) bg (nI 0) se))) (hTx : mt_At σ.1 n tx) (hT : sp_tok n tx) (hi : i ≤ 1000) (hlo : lo ≤ 99) (hH : H ≤ 100) (hh : hv.toInt = (H : Int) - 1) : ax_N mX8_number 1 0 0 [.ref 56, .int (nI lo), .int hv] σ (fun r τ => ∃ j, j ≤ i + 3 ∧ ((∃ v, sp_rn n tx i = (some v, j) ∧ lo ≤ v ∧ v < H ∧ r = some (.int (nI v)) ∧ τ = mo_t σ g t w ng nt nw ac kp n j bg 0 se) ∨ (nu_bad n tx i lo H ∧ r = some (.int (nI 0)) ∧ τ = mo_t σ g t w ng nt nw ac kp n j bg 1 se))) := by
  obtain ⟨P, hP⟩ : ∃ P : Option Value → ax_S → Prop, P = (fun r τ => ∃ j, j ≤ i + 3 ∧ ((∃ v, sp_rn n tx i = (some v, j) ∧ lo ≤ v ∧ v < H ∧ r = some (.int (nI v)) ∧ τ = mo_t σ g t w ng nt nw ac kp n j bg 0 se) ∨ (nu_bad n tx i lo H ∧ r = some (.int (nI 0)) ∧ τ = mo_t σ g t w ng nt nw ac kp n j bg 1 se))) := ⟨_, rfl⟩
  rw [← hP]
  refine ax_N.of (ls := [some (.ref 56), some (.int (nI lo)), some (.int hv), none, none]) (by decide +kernel) rfl (Nat.le_of_ble_eq_true rfl) ?_
  -- wrong
  have B : ∀ j (zz : List (Option Value)) (τ : ax_S), zz[0]? = some (some (.ref 56)) → j ≤ i + 3 → nu_bad n tx i lo H → τ = mo_t σ g t w ng nt nw ac kp n j bg 0 se → ax_J (mX8_number, 1, 0, 0) 0 0 88 zz [.ref 56] τ P := by
    intro j zz τ hz hj hbad hτ
    have M_o : τ.1 56 = some (.inr (8, mo_f g t w ng nt nw ac kp (nI n) (nI j) bg (nI 0) se)) := ax_kS hτ
    refine ax_iconst (pc' := 89) (v := (nI 1)) kc_1 dX8_number_88 rfl ?_
    refine ax_goto (tgt := 93) dX8_number_89 (by decide) ?_
    refine ax_putu (pc' := 96) fp_X8_127 M_o rfl (fun _ => ⟨rfl, rfl⟩) dX8_number_93 rfl (fun s1 g1 => ?_)
    have M_o := ax_kS g1
    refine ax_aload_n (pc' := 97) hz dX8_number_96 rfl ?_
    refine ax_getf (pc' := 100) fl_X8_127 M_o rfl dX8_number_97 rfl ?_
    refine ax_if_eq (pc' := 103) (tgt := 107) dX8_number_100 (by decide) rfl (fun hz => absurd hz (kz_1)) (fun _ => ?_)
    refine ax_iconst (pc' := 104) (v := (nI 0)) kc_0 dX8_number_103 rfl ?_
    refine ax_goto (tgt := 108) dX8_number_104 (by decide) ?_
    exact ax_iret dX8_number_108 rfl (Nat.le_of_ble_eq_true rfl) (Nat.le_of_ble_eq_true rfl) ((by rw [hP]; exact ⟨j, hj, Or.inr ⟨hbad, rfl, by rw [g1, hτ]; simp only [ax_up2]⟩⟩))
  -- behind the figures
  have T : ∀ j k v (τ : ax_S), j ≤ i + 3 → k ≤ 3 → v ≤ 999 → τ = mo_t σ g t w ng nt nw ac kp n j bg 0 se → ((k = 1 ∨ k = 2) → sp_rn n tx i = (some v, j)) → (¬ (k = 1 ∨ k = 2) → nu_bad n tx i lo H) → ax_J (mX8_number, 1, 0, 0) 0 0 57 [some (.ref 56), some (.int (nI lo)), some (.int hv), some (.int (nI v)), some (.int (nI k))] [] τ P := by
    intro j k v τ hj hk hv9 hτ h1 h2
    have M_o : τ.1 56 = some (.inr (8, mo_f g t w ng nt nw ac kp (nI n) (nI j) bg (nI 0) se)) := ax_kS hτ
    refine ax_aload_n (pc' := 58) rfl dX8_number_57 rfl ?_
    refine ax_aload_n (pc' := 59) rfl dX8_number_58 rfl ?_
    refine ax_getf (pc' := 62) fl_X8_127 M_o rfl dX8_number_59 rfl ?_
    refine ax_if_ne (pc' := 65) (tgt := 88) dX8_number_62 (by decide) rfl (fun hz => absurd (kz_0) hz) (fun _ => ?_)
    refine ax_iload (pc' := 67) rfl dX8_number_65 rfl ?_
    by_cases hk0 : k = 0
    · refine ax_if_eq (pc' := 70) (tgt := 88) dX8_number_67 (by decide) rfl (fun _ => ?_) (fun hz => absurd (by rw [hk0]; exact kz_0) hz)
      exact B j _ τ rfl hj (h2 (by omega)) hτ
    · refine ax_if_eq (pc' := 70) (tgt := 88) dX8_number_67 (by decide) rfl (fun hz => absurd hz (nI_ne0 (by omega) (by omega))) (fun _ => ?_)
      refine ax_iload (pc' := 72) rfl dX8_number_70 rfl ?_
      refine ax_iconst (pc' := 73) (v := (nI 2)) kc_2 dX8_number_72 rfl ?_
      by_cases hk3 : 2 < k
      · refine ax_icmp_gt (pc' := 76) (tgt := 88) dX8_number_73 (by decide) rfl (fun _ => ?_) (fun hz => absurd (nI_lt hk3 (by omega)) hz)
        exact B j _ τ rfl hj (h2 (by omega)) hτ
      · have hrn := h1 (by omega)
        refine ax_icmp_gt (pc' := 76) (tgt := 88) dX8_number_73 (by decide) rfl (fun hz => absurd hz (nI_nlt (by omega) (by decide))) (fun _ => ?_)
        refine ax_iload_n (pc' := 77) rfl dX8_number_76 rfl ?_
        refine ax_i2l (pc' := 78) dX8_number_77 rfl ?_
        refine ax_iload_n (pc' := 79) rfl dX8_number_78 rfl ?_
        refine ax_i2l (pc' := 80) dX8_number_79 rfl ?_
        refine ax_iload_n (pc' := 81) rfl dX8_number_80 rfl ?_
        refine ax_i2l (pc' := 82) dX8_number_81 rfl ?_
        have hbnd : ((nI lo).toInt64 ≤ (nI v).toInt64 ∧ (nI v).toInt64 ≤ hv.toInt64) ↔ (lo ≤ v ∧ v < H) := by
          rw [Int64.le_iff_toInt_le, Int64.le_iff_toInt_le, Int32.toInt_toInt64, Int32.toInt_toInt64, Int32.toInt_toInt64, hh, nI_toInt (by omega), nI_toInt (by omega)]
          omega
        by_cases hin : lo ≤ v ∧ v < H
        · refine ax_callSR (pc' := 85) ls_X8_101 (m_inT (hbnd.mpr hin).1 (hbnd.mpr hin).2) rfl rfl (Nat.le_of_ble_eq_true rfl) (Nat.le_of_ble_eq_true rfl) dX8_number_82 rfl ?_
          refine ax_if_ne (pc' := 88) (tgt := 92) dX8_number_85 (by decide) rfl (fun _ => ?_) (fun hz => absurd hz (kz_1))
          refine ax_iconst (pc' := 93) (v := (nI 0)) kc_0 dX8_number_92 rfl ?_
          refine ax_putu (pc' := 96) fp_X8_127 M_o rfl (fun _ => ⟨rfl, rfl⟩) dX8_number_93 rfl (fun s1 g1 => ?_)
          have M_o := ax_kS g1
          refine ax_aload_n (pc' := 97) rfl dX8_number_96 rfl ?_
          refine ax_getf (pc' := 100) fl_X8_127 M_o rfl dX8_number_97 rfl ?_
          refine ax_if_eq (pc' := 103) (tgt := 107) dX8_number_100 (by decide) rfl (fun _ => ?_) (fun hz => absurd (kz_0) hz)
          refine ax_iload_n (pc' := 108) rfl dX8_number_107 rfl ?_
          exact ax_iret dX8_number_108 rfl (Nat.le_of_ble_eq_true rfl) (Nat.le_of_ble_eq_true rfl) ((by rw [hP]; exact ⟨j, hj, Or.inl ⟨v, hrn, hin.1, hin.2, rfl, by rw [g1, hτ]; simp only [ax_up2]⟩⟩))
        · refine ax_callSR (pc' := 85) ls_X8_101 (m_inF (fun q => hin (hbnd.mp q))) rfl rfl (Nat.le_of_ble_eq_true rfl) (Nat.le_of_ble_eq_true rfl) dX8_number_82 rfl ?_
          refine ax_if_ne (pc' := 88) (tgt := 92) dX8_number_85 (by decide) rfl (fun hz => absurd (kz_0) hz) (fun _ => ?_)
          exact B j _ τ rfl hj (fun v' j' e a1 a2 => by rw [hrn] at e; cases e; exact absurd ⟨a1, a2⟩ hin) hτ
  -- one figure more
  have F : ∀ j k v (τ : ax_S), j ≤ 2000 → k < 3 → v ≤ 99 → τ = mo_t σ g t w ng nt nw ac kp n j bg 0 se → sp_dig (sp_lt n tx j) = true → (∀ ρ : ax_S, ρ = mo_t σ g t w ng nt nw ac kp n (j + 1) bg 0 se → ax_J (mX8_number, 1, 0, 0) 0 0 5 [some (.ref 56), some (.int (nI lo)), some (.int hv), some (.int (nI (10 * v + (sp_lt n tx j - 48)))), some (.int (nI (k + 1)))] [] ρ P) → ax_J (mX8_number, 1, 0, 0) 0 0 5 [some (.ref 56), some (.int (nI lo)), some (.int hv), some (.int (nI v)), some (.int (nI k))] [] τ P := by
    intro j k v τ hj hk hv9 hτ hd kk
    have M_o : τ.1 56 = some (.inr (8, mo_f g t w ng nt nw ac kp (nI n) (nI j) bg (nI 0) se)) := ax_kS hτ
    have hTx1 : mt_At τ.1 n tx := hTx.on (ax_kF hτ (by decide))
    have e1 := sp_dig_le hd
    obtain ⟨d1, d2⟩ := m_digT (σ := τ) hT hd
    refine ax_aload_n (pc' := 6) rfl dX8_number_5 rfl ?_
    refine ax_callVR (pc' := 9) lv_X8_119 (m_peek M_o hTx1 hT (by omega)) M_o rfl rfl (Nat.le_of_ble_eq_true rfl) (Nat.le_of_ble_eq_true rfl) dX8_number_6 rfl ?_
    refine ax_i2l (pc' := 10) dX8_number_9 rfl ?_
    refine ax_ldc2 (pc' := 13) kl_X8_123 dX8_number_10 rfl ?_
    refine ax_ldc2 (pc' := 16) kl_X8_125 dX8_number_13 rfl ?_
    refine ax_callSR (pc' := 19) ls_X8_101 (d1) rfl rfl (Nat.le_of_ble_eq_true rfl) (Nat.le_of_ble_eq_true rfl) dX8_number_16 rfl ?_
    refine ax_if_eq (pc' := 22) (tgt := 57) dX8_number_19 (by decide) rfl (fun hz => absurd hz (kz_1)) (fun _ => ?_)
    refine ax_iload (pc' := 24) rfl dX8_number_22 rfl ?_
    refine ax_iconst (pc' := 25) (v := (nI 3)) kc_3 dX8_number_24 rfl ?_
    refine ax_icmp_ge (pc' := 28) (tgt := 57) dX8_number_25 (by decide) rfl (fun hz => absurd hz (nI_ge hk (by decide))) (fun _ => ?_)
    refine ax_bipush (pc' := 30) (v := (nI 10)) kb_10 dX8_number_28 rfl ?_
    refine ax_iload_n (pc' := 31) rfl dX8_number_30 rfl ?_
    refine ax_imul (pc' := 32) dX8_number_31 rfl ?_
    refine ax_aload_n (pc' := 33) rfl dX8_number_32 rfl ?_
    refine ax_callVR (pc' := 36) lv_X8_119 (m_peek M_o hTx1 hT (by omega)) M_o rfl rfl (Nat.le_of_ble_eq_true rfl) (Nat.le_of_ble_eq_true rfl) dX8_number_33 rfl ?_
    refine ax_topi d2 ?_
    refine ax_iadd (pc' := 37) dX8_number_36 rfl ?_
    refine ax_bipush (pc' := 39) (v := (nI 48)) kb_48 dX8_number_37 rfl ?_
    refine ax_isub (pc' := 40) dX8_number_39 rfl ?_
    refine ax_topi (v' := nI (10 * v + (sp_lt n tx j - 48))) (by rw [pk_mul, nI_add, pk_sub (by omega)]; congr 1; omega) ?_
    refine ax_istore_n (pc' := 41) rfl (Nat.le_of_ble_eq_true rfl) dX8_number_40 rfl ?_
    refine ax_iinc1 (pc' := 44) rfl rfl (Nat.le_of_ble_eq_true rfl) dX8_number_41 rfl ?_
    refine ax_aload_n (pc' := 45) rfl dX8_number_44 rfl ?_
    refine ax_dup (pc' := 46) rfl dX8_number_45 rfl ?_
    refine ax_getf (pc' := 49) fl_X8_116 M_o rfl dX8_number_46 rfl ?_
    refine ax_iconst (pc' := 50) (v := (nI 1)) kc_1 dX8_number_49 rfl ?_
    refine ax_iadd (pc' := 51) dX8_number_50 rfl ?_
    refine ax_topi (nI_add j 1) ?_
    refine ax_putu (pc' := 54) fp_X8_116 M_o rfl (fun _ => ⟨rfl, rfl⟩) dX8_number_51 rfl (fun s1 g1 => ?_)
    refine ax_goto (tgt := 5) dX8_number_54 (by decide) ?_
    exact kk s1 (by rw [g1, hτ]; simp only [ax_up2])
  -- no figure more
  have X : ∀ j k v (τ : ax_S), j ≤ i + 3 → k ≤ 3 → v ≤ 999 → τ = mo_t σ g t w ng nt nw ac kp n j bg 0 se → (sp_dig (sp_lt n tx j) = true → k = 3) → ((k = 1 ∨ k = 2) → sp_rn n tx i = (some v, j)) → (¬ (k = 1 ∨ k = 2) → nu_bad n tx i lo H) → ax_J (mX8_number, 1, 0, 0) 0 0 5 [some (.ref 56), some (.int (nI lo)), some (.int hv), some (.int (nI v)), some (.int (nI k))] [] τ P := by
    intro j k v τ hj hk hv9 hτ hd h1 h2
    have M_o : τ.1 56 = some (.inr (8, mo_f g t w ng nt nw ac kp (nI n) (nI j) bg (nI 0) se)) := ax_kS hτ
    have hTx1 : mt_At τ.1 n tx := hTx.on (ax_kF hτ (by decide))
    refine ax_aload_n (pc' := 6) rfl dX8_number_5 rfl ?_
    refine ax_callVR (pc' := 9) lv_X8_119 (m_peek M_o hTx1 hT (by omega)) M_o rfl rfl (Nat.le_of_ble_eq_true rfl) (Nat.le_of_ble_eq_true rfl) dX8_number_6 rfl ?_
    refine ax_i2l (pc' := 10) dX8_number_9 rfl ?_
    refine ax_ldc2 (pc' := 13) kl_X8_123 dX8_number_10 rfl ?_
    refine ax_ldc2 (pc' := 16) kl_X8_125 dX8_number_13 rfl ?_
    by_cases dd : sp_dig (sp_lt n tx j) = true
    · have hk3 := hd dd
      obtain ⟨d1, d2⟩ := m_digT (σ := τ) hT dd
      refine ax_callSR (pc' := 19) ls_X8_101 (d1) rfl rfl (Nat.le_of_ble_eq_true rfl) (Nat.le_of_ble_eq_true rfl) dX8_number_16 rfl ?_
      refine ax_if_eq (pc' := 22) (tgt := 57) dX8_number_19 (by decide) rfl (fun hz => absurd hz (kz_1)) (fun _ => ?_)
      refine ax_iload (pc' := 24) rfl dX8_number_22 rfl ?_
      refine ax_iconst (pc' := 25) (v := (nI 3)) kc_3 dX8_number_24 rfl ?_
      refine ax_icmp_ge (pc' := 28) (tgt := 57) dX8_number_25 (by decide) rfl (fun _ => ?_) (fun hz => absurd (nI_le (by omega) (by omega)) hz)
      exact T j k v τ hj hk hv9 hτ h1 h2
    · refine ax_callSR (pc' := 19) ls_X8_101 (m_digF hT dd) rfl rfl (Nat.le_of_ble_eq_true rfl) (Nat.le_of_ble_eq_true rfl) dX8_number_16 rfl ?_
      refine ax_if_eq (pc' := 22) (tgt := 57) dX8_number_19 (by decide) rfl (fun _ => ?_) (fun hz => absurd (kz_0) hz)
      exact T j k v τ hj hk hv9 hτ h1 h2
  refine ax_iconst (pc' := 1) (v := (nI 0)) kc_0 dX8_number_0 rfl ?_
  refine ax_istore_n (pc' := 2) rfl (Nat.le_of_ble_eq_true rfl) dX8_number_1 rfl ?_
  refine ax_iconst (pc' := 3) (v := (nI 0)) kc_0 dX8_number_2 rfl ?_
  refine ax_istore (pc' := 5) rfl (Nat.le_of_ble_eq_true rfl) dX8_number_3 rfl ?_
  have h0 : σ = mo_t σ g t w ng nt nw ac kp n i bg 0 se := by rw [mo_t, ax_upi M_o]
  by_cases d1 : sp_dig (sp_lt n tx i) = true
  · have e1 := sp_dig_le d1
    refine F i 0 0 σ (by omega) (by decide) (by decide) h0 d1 (fun ρ1 hρ1 => ?_)
    rw [show 10 * 0 + (sp_lt n tx i - 48) = sp_lt n tx i - 48 by omega]
    by_cases d2 : sp_dig (sp_lt n tx (i + 1)) = true
    · have e2 := sp_dig_le d2
      have hrn : sp_rn n tx i = (some (10 * (sp_lt n tx i - 48) + (sp_lt n tx (i + 1) - 48)), i + 2) := by simp [sp_rn, d1, d2]
      refine F (i + 1) 1 _ ρ1 (by omega) (by decide) (by omega) hρ1 d2 (fun ρ2 hρ2 => ?_)
      by_cases d3 : sp_dig (sp_lt n tx (i + 2)) = true
      · have e3 := sp_dig_le d3
        refine F (i + 2) 2 _ ρ2 (by omega) (by decide) (by omega) hρ2 d3 (fun ρ3 hρ3 => ?_)
        exact X (i + 3) 3 _ ρ3 (by omega) (by decide) (by omega) hρ3 (fun _ => rfl) (fun h => by omega) (fun _ v j e _ _ => by rw [hrn] at e; cases e; exact d3)
      · exact X (i + 2) 2 _ ρ2 (by omega) (by decide) (by omega) hρ2 (fun h => absurd h d3) (fun _ => hrn) (fun h => absurd (Or.inr rfl) h)
    · have hrn : sp_rn n tx i = (some (sp_lt n tx i - 48), i + 1) := by simp [sp_rn, d1, d2]
      exact X (i + 1) 1 _ ρ1 (by omega) (by decide) (by omega) hρ1 (fun h => absurd h d2) (fun _ => hrn) (fun h => absurd (Or.inl rfl) h)
  · have hrn : sp_rn n tx i = (none, i) := by simp [sp_rn, d1]
    exact X i 0 0 σ (by omega) (by decide) (by decide) h0 (fun h => absurd h d1) (fun h => by omega) (fun _ v j e _ _ => by rw [hrn] at e; cases e)
theorem m_more {i lo H : Nat} {hv : Int32} (M_o : σ.1 56 = some (.inr (8, mo_f g t w ng nt nw ac kp (nI n) (nI i) bg (nI 0) se))) (hTx : mt_At σ.1 n tx) (hT : sp_tok n tx) (hi : i ≤ 900) (hlo : lo ≤ 99) (hH : H ≤ 100) (hh : hv.toInt = (H : Int) - 1) : ax_N mX8_more 2 0 0 [.ref 56, .int (nI lo), .int hv] σ (fun r τ => ∃ j, j ≤ i + 4 ∧ ((∃ v, sp_lt n tx i = 44 ∧ sp_rn n tx (i + 1) = (some v, j) ∧ lo ≤ v ∧ v < H ∧ r = some (.int (nI v)) ∧ τ = mo_t σ g t w ng nt nw ac kp n j bg 0 se) ∨ ((sp_lt n tx i = 44 → nu_bad n tx (i + 1) lo H) ∧ r = some (.int (nI 0)) ∧ τ = mo_t σ g t w ng nt nw ac kp n j bg 1 se))) := by
  refine ax_N.of (ls := [some (.ref 56), some (.int (nI lo)), some (.int hv)]) (by decide +kernel) rfl (Nat.le_of_ble_eq_true rfl) ?_
  refine ax_aload_n (pc' := 1) rfl dX8_more_0 rfl ?_
  refine ax_aload_n (pc' := 2) rfl dX8_more_1 rfl ?_
  refine ax_getf (pc' := 5) fl_X8_127 M_o rfl dX8_more_2 rfl ?_
  refine ax_if_ne (pc' := 8) (tgt := 17) dX8_more_5 (by decide) rfl (fun hz => absurd (kz_0) hz) (fun _ => ?_)
  refine ax_aload_n (pc' := 9) rfl dX8_more_8 rfl ?_
  refine ax_callVR (pc' := 12) lv_X8_119 (m_peek M_o hTx hT (by omega)) M_o rfl rfl (Nat.le_of_ble_eq_true rfl) (Nat.le_of_ble_eq_true rfl) dX8_more_9 rfl ?_
  refine ax_bipush (pc' := 14) (v := (nI 44)) kb_44 dX8_more_12 rfl ?_
  by_cases h44 : sp_lt n tx i = 44
  · refine ax_icmp_eq (pc' := 17) (tgt := 21) dX8_more_14 (by decide) rfl (fun _ => ?_) (fun hz => absurd ((pk_v_eq hT (by decide) (by decide)).mpr h44) hz)
    refine ax_iconst (pc' := 22) (v := (nI 0)) kc_0 dX8_more_21 rfl ?_
    refine ax_putu (pc' := 25) fp_X8_127 M_o rfl (fun _ => ⟨rfl, rfl⟩) dX8_more_22 rfl (fun s1 g1 => ?_)
    have M_o := ax_kS g1
    refine ax_aload_n (pc' := 26) rfl dX8_more_25 rfl ?_
    refine ax_dup (pc' := 27) rfl dX8_more_26 rfl ?_
    refine ax_getf (pc' := 30) fl_X8_116 M_o rfl dX8_more_27 rfl ?_
    refine ax_iconst (pc' := 31) (v := (nI 1)) kc_1 dX8_more_30 rfl ?_
    refine ax_iadd (pc' := 32) dX8_more_31 rfl ?_
    refine ax_topi (nI_add i 1) ?_
    refine ax_putu (pc' := 35) fp_X8_116 M_o rfl (fun _ => ⟨rfl, rfl⟩) dX8_more_32 rfl (fun s2 g2 => ?_)
    have M_o := ax_kS g2
    refine ax_aload_n (pc' := 36) rfl dX8_more_35 rfl ?_
    refine ax_getf (pc' := 39) fl_X8_127 M_o rfl dX8_more_36 rfl ?_
    refine ax_if_eq (pc' := 42) (tgt := 46) dX8_more_39 (by decide) rfl (fun _ => ?_) (fun hz => absurd (kz_0) hz)
    refine ax_aload_n (pc' := 47) rfl dX8_more_46 rfl ?_
    refine ax_iload_n (pc' := 48) rfl dX8_more_47 rfl ?_
    refine ax_iload_n (pc' := 49) rfl dX8_more_48 rfl ?_
    refine ax_callVG (pc' := 52) lv_X8_131 (m_number M_o ((hTx.on (ax_kF g1 (by decide))).on (ax_kF g2 (by decide))) hT (by omega) hlo hH hh) M_o rfl rfl (Nat.le_of_ble_eq_true rfl) (Nat.le_of_ble_eq_true rfl) dX8_more_49 rfl (fun r3 s3 hr3 => ?_)
    have e2 : ∀ c, (ax_up s2.1 56 c, s2.2) = ((ax_up σ.1 56 c, σ.2) : ax_S) := fun c => by rw [g2, g1]; simp only [ax_up2]
    obtain ⟨j, hj, ⟨v, h1, h2, h3, rfl, h4⟩ | ⟨h1, rfl, h4⟩⟩ := hr3
    · exact ax_iret dX8_more_52 rfl (Nat.le_of_ble_eq_true rfl) (Nat.le_of_ble_eq_true rfl) (⟨j, by omega, Or.inl ⟨v, h44, h1, h2, h3, rfl, h4.trans (e2 _)⟩⟩)
    · exact ax_iret dX8_more_52 rfl (Nat.le_of_ble_eq_true rfl) (Nat.le_of_ble_eq_true rfl) (⟨j, by omega, Or.inr ⟨fun _ => h1, rfl, h4.trans (e2 _)⟩⟩)
  · refine ax_icmp_eq (pc' := 17) (tgt := 21) dX8_more_14 (by decide) rfl (fun hz => absurd hz (fun h => h44 ((pk_v_eq hT (by decide) (by decide)).mp h))) (fun _ => ?_)
    refine ax_iconst (pc' := 18) (v := (nI 1)) kc_1 dX8_more_17 rfl ?_
    refine ax_goto (tgt := 22) dX8_more_18 (by decide) ?_
    refine ax_putu (pc' := 25) fp_X8_127 M_o rfl (fun _ => ⟨rfl, rfl⟩) dX8_more_22 rfl (fun s1 g1 => ?_)
    have M_o := ax_kS g1
    refine ax_aload_n (pc' := 26) rfl dX8_more_25 rfl ?_
    refine ax_dup (pc' := 27) rfl dX8_more_26 rfl ?_
    refine ax_getf (pc' := 30) fl_X8_116 M_o rfl dX8_more_27 rfl ?_
    refine ax_iconst (pc' := 31) (v := (nI 1)) kc_1 dX8_more_30 rfl ?_
    refine ax_iadd (pc' := 32) dX8_more_31 rfl ?_
    refine ax_topi (nI_add i 1) ?_
    refine ax_putu (pc' := 35) fp_X8_116 M_o rfl (fun _ => ⟨rfl, rfl⟩) dX8_more_32 rfl (fun s2 g2 => ?_)
    have M_o := ax_kS g2
    refine ax_aload_n (pc' := 36) rfl dX8_more_35 rfl ?_
    refine ax_getf (pc' := 39) fl_X8_127 M_o rfl dX8_more_36 rfl ?_
    refine ax_if_eq (pc' := 42) (tgt := 46) dX8_more_39 (by decide) rfl (fun hz => absurd hz (kz_1)) (fun _ => ?_)
    refine ax_iconst (pc' := 43) (v := (nI 0)) kc_0 dX8_more_42 rfl ?_
    refine ax_goto (tgt := 52) dX8_more_43 (by decide) ?_
    exact ax_iret dX8_more_52 rfl (Nat.le_of_ble_eq_true rfl) (Nat.le_of_ble_eq_true rfl) (⟨i + 1, by omega, Or.inr ⟨fun h => absurd h h44, rfl, by rw [g2, g1]; simp only [ax_up2]⟩⟩)
theorem m_moreX {i : Nat} {lv hv : Int32} (M_o : σ.1 56 = some (.inr (8, mo_f g t w ng nt nw ac kp (nI n) (nI i) bg (nI 1) se))) : ax_N mX8_more 2 0 0 [.ref 56, .int lv, .int hv] σ (fun r τ => r = some (.int (nI 0)) ∧ τ = mo_t σ g t w ng nt nw ac kp n (i + 1) bg 1 se) := by
  refine ax_N.of (ls := [some (.ref 56), some (.int lv), some (.int hv)]) (by decide +kernel) rfl (Nat.le_of_ble_eq_true rfl) ?_
  refine ax_aload_n (pc' := 1) rfl dX8_more_0 rfl ?_
  refine ax_aload_n (pc' := 2) rfl dX8_more_1 rfl ?_
  refine ax_getf (pc' := 5) fl_X8_127 M_o rfl dX8_more_2 rfl ?_
  refine ax_if_ne (pc' := 8) (tgt := 17) dX8_more_5 (by decide) rfl (fun _ => ?_) (fun hz => absurd hz (kz_1))
  refine ax_iconst (pc' := 18) (v := (nI 1)) kc_1 dX8_more_17 rfl ?_
  refine ax_goto (tgt := 22) dX8_more_18 (by decide) ?_
  refine ax_putu (pc' := 25) fp_X8_127 M_o rfl (fun _ => ⟨rfl, rfl⟩) dX8_more_22 rfl (fun s1 g1 => ?_)
  have M_o := ax_kS g1
  refine ax_aload_n (pc' := 26) rfl dX8_more_25 rfl ?_
  refine ax_dup (pc' := 27) rfl dX8_more_26 rfl ?_
  refine ax_getf (pc' := 30) fl_X8_116 M_o rfl dX8_more_27 rfl ?_
  refine ax_iconst (pc' := 31) (v := (nI 1)) kc_1 dX8_more_30 rfl ?_
  refine ax_iadd (pc' := 32) dX8_more_31 rfl ?_
  refine ax_topi (nI_add i 1) ?_
  refine ax_putu (pc' := 35) fp_X8_116 M_o rfl (fun _ => ⟨rfl, rfl⟩) dX8_more_32 rfl (fun s2 g2 => ?_)
  have M_o := ax_kS g2
  refine ax_aload_n (pc' := 36) rfl dX8_more_35 rfl ?_
  refine ax_getf (pc' := 39) fl_X8_127 M_o rfl dX8_more_36 rfl ?_
  refine ax_if_eq (pc' := 42) (tgt := 46) dX8_more_39 (by decide) rfl (fun hz => absurd hz (kz_1)) (fun _ => ?_)
  refine ax_iconst (pc' := 43) (v := (nI 0)) kc_0 dX8_more_42 rfl ?_
  refine ax_goto (tgt := 52) dX8_more_43 (by decide) ?_
  exact ax_iret dX8_more_52 rfl (Nat.le_of_ble_eq_true rfl) (Nat.le_of_ble_eq_true rfl) (⟨rfl, by rw [g2, g1]; simp only [ax_up2]⟩)
end MR
