/-! ===== the class's calls, second half ===== -/
theorem sp_en_T {o : Option Nat} (h : o ≠ none) (ho : ∀ m, o = some m → m < 2 ^ 31) : ¬ sp_en o = (-4 : Int32) := by
  cases o with
  | none => exact absurd rfl h
  | some m => exact nI_ne4 (ho m rfl)
theorem sp_mn_le {S : sp_S} (hS : sp_Ok S) {m : Nat} (h : sp_mn S = some m) : m ≤ 4309200 := sp_mean_le (fun i m hi h => sp_sel_le hS.2.1 hS.2.2.2.1 hi h) h
theorem sp_ways_le (P : Nat → Bool) (x n k : Nat) : sp_ways P x n k ≤ sp_ways (fun _ => true) x n k := by
  induction k with
  | zero => exact Nat.le_refl _
  | succ k ih =>
    simp only [sp_ways, if_true]
    split <;> omega
set_option maxRecDepth 100000 in
theorem sp_ways_all : ∀ n, n < 10 → ∀ x, x < 11 → sp_ways (fun _ => true) x n (2 ^ n) = 10 ^ n := by decide +kernel
section XB
variable {σ : ax_S} {S : sp_S}
theorem x_mean (hx : xs_At σ.1 S) (hS : sp_Ok S) : ax_N mX7_mean 8 0 0 [.ref 0] σ (xs_Po σ (o_mean S)) := by
  obtain ⟨pb, pq, ts, hpp, hX, hPa, hRd, hK, hY, hK1, hK2, hT, hto, hSg, hG, hQ⟩ := hx
  have X_o := hX.1
  have hp := hX.2.2.2
  refine ax_N.of (ls := [some (.ref 0)]) (by decide +kernel) rfl (Nat.le_of_ble_eq_true rfl) ?_
  refine ax_aload_n (pc' := 1) rfl dX7_mean_0 rfl ?_
  refine ax_aload_n (pc' := 2) rfl dX7_mean_1 rfl ?_
  refine ax_getf (pc' := 5) fl_X7_26 X_o rfl dX7_mean_2 rfl ?_
  refine ax_callVG (pc' := 8) lv_X7_204 (c_meanBy hX hG hK hS.2.2.2.1 (by omega)) X_o rfl rfl (Nat.le_of_ble_eq_true rfl) (Nat.le_of_ble_eq_true rfl) dX7_mean_5 rfl (fun r σ' hr => ?_)
  obtain ⟨rfl, hG2, hF⟩ := hr
  exact ax_iret dX7_mean_8 rfl (Nat.le_of_ble_eq_true rfl) (Nat.le_of_ble_eq_true rfl) (⟨rfl, ⟨pb, pq, ts, hpp, hX.on (hF.2 0 (by omega)) (fun z _ _ => hF.2 z (by omega)), hPa.on (fun z _ _ => hF.2 z (by omega)), hRd.on (fun z _ _ => hF.2 z (by omega)), hK.on (fun z _ _ => hF.2 z (by omega)), hY.on (fun z _ _ => hF.2 z (by omega)), hK1.on (fun z _ _ => hF.2 z (by omega)), hK2.on (fun z _ _ => hF.2 z (by omega)), hT.on (fun z _ _ => hF.2 z (by omega)), hto, hSg.on (fun z _ _ => hF.2 z (by omega)), hG2.any, hQ.on (fun z _ _ => hF.2 z (by omega))⟩, ax_fr.rf.tr hF (by omega) (by omega)⟩)
theorem sp_ls_some (b : sp_B) (q : sp_rep) : sp_ls b q = some ((sp_ls b q).getD 0) := by
  simp [sp_ls, sp_go]
theorem sp_al_le {b : sp_B} {rs : List sp_rep} (hb : sp_ok b) (hk : bk_ok b rs) {k : Nat} (hkl : k ≤ rs.length) {q : Nat × Nat} (h : sp_al b rs k = some q) : q.1 ≤ 4309200 ∧ q.2 ≤ 4309200 := by
  induction k generalizing q with
  | zero => cases h
  | succ k ih =>
    obtain ⟨-, -, -, hn⟩ := hk.2 k (by omega)
    have hu := (hb.2.2.2.2.2 (sp_at rs k).1).2.2.2.2
    have hl : (sp_ls b (sp_at rs k)).getD 0 ≤ 4309200 := sp_go_le hn hu (sp_ls_some b (sp_at rs k))
    simp only [sp_al] at h
    split at h
    · exact ih (by omega) h
    · rename_i hh hm
      have hh2 : hh ≤ 4309200 := sp_go_le hn hu hm
      split at h
      · cases h; exact ⟨hl, hh2⟩
      · rename_i q0 h0
        have := ih (by omega) h0
        cases h
        exact ⟨Nat.max_le.mpr ⟨this.1, hl⟩, Nat.le_trans (Nat.min_le_left _ _) this.2⟩
theorem c_maxN {σ : ax_S} {lv : Nat} (hl : lv < 2 ^ 31) : ax_R mJ9_max_7cf53 0 [.int (-4), .int (nI lv)] σ (.int (nI lv)) := by
  refine ax_N.ofF (ls := [some (.int (-4)), some (.int (nI lv))]) (by decide +kernel) rfl (Nat.le_of_ble_eq_true rfl) ?_
  refine ax_iload_n (pc' := 1) rfl dJ9_max_7cf53_0 rfl ?_
  refine ax_iload_n (pc' := 2) rfl dJ9_max_7cf53_1 rfl ?_
  refine ax_icmp_lt (pc' := 5) (tgt := 9) dJ9_max_7cf53_2 (by decide) rfl (fun _ => ?_) (fun hz => absurd (by rw [Int32.lt_iff_toInt_lt, nI_toInt hl, show (-4 : Int32).toInt = -4 by decide +kernel]; omega) hz)
  refine ax_iload_n (pc' := 10) rfl dJ9_max_7cf53_9 rfl ?_
  exact ax_iret dJ9_max_7cf53_10 rfl (Nat.le_of_ble_eq_true rfl) (Nat.le_of_ble_eq_true rfl) (⟨rfl, rfl⟩)
theorem x_all (hx : xs_At σ.1 S) (hS : sp_Ok S) (v : Int32) : ax_N mX7_all 8 0 0 [.ref 0, .int v] σ (xs_Po σ (o_all S v)) := by
  have hx0 := hx
  obtain ⟨pb, pq, ts, hpp, hX, hPa, hRd, hK, -⟩ := hx
  have X_o := hX.1
  have hb := hX.2.2.1
  have hk := hS.2.2.2.1
  have h9 := hk.1
  have K_o : σ.1 5 = _ := hK.choose_spec.choose_spec.choose_spec.choose_spec.1
  refine ax_N.of (ls := [some (.ref 0), some (.int v), none, none, none, none]) (by decide +kernel) rfl (Nat.le_of_ble_eq_true rfl) ?_
  refine ax_iload_n (pc' := 1) rfl dX7_all_0 rfl ?_
  refine ax_iconst (pc' := 2) (v := (nI 0)) kc_0 dX7_all_1 rfl ?_
  refine ax_iconst (pc' := 3) (v := (nI 2)) kc_2 dX7_all_2 rfl ?_
  rcases sp_in_cases v (lo := 0) (hi := 2) (by decide) (by decide) with ⟨j, h1, h2, rfl, e⟩ | ⟨hv, e⟩
  · refine ax_callSR (pc' := 6) ls_X7_97 (c_withinT (nI_le h1 (by omega)) (nI_le h2 (by decide))) rfl rfl (Nat.le_of_ble_eq_true rfl) (Nat.le_of_ble_eq_true rfl) dX7_all_3 rfl ?_
    refine ax_if_ne (pc' := 9) (tgt := 11) dX7_all_6 (by decide) rfl (fun _ => ?_) (fun hz => absurd hz (kz_1))
    refine ax_bipush (pc' := 13) (v := (-4)) kb_m4 dX7_all_11 rfl ?_
    refine ax_istore_n (pc' := 14) rfl (Nat.le_of_ble_eq_true rfl) dX7_all_13 rfl ?_
    refine ax_bipush (pc' := 16) (v := (-4)) kb_m4 dX7_all_14 rfl ?_
    refine ax_istore_n (pc' := 17) rfl (Nat.le_of_ble_eq_true rfl) dX7_all_16 rfl ?_
    refine ax_iconst (pc' := 18) (v := (nI 0)) kc_0 dX7_all_17 rfl ?_
    refine ax_istore (pc' := 20) rfl (Nat.le_of_ble_eq_true rfl) dX7_all_18 rfl ?_
    have K : ∀ m i (z : Option Value), i + m = S.2.2.1.1.length → ax_J (mX7_all, 8, 0, 0) 0 0 20 [some (.ref 0), some (.int (nI j)), some (.int (sp_o1 (sp_al S.2.1 S.2.2.1.1 i))), some (.int (sp_o2 (sp_al S.2.1 S.2.2.1.1 i))), some (.int (nI i)), z] [] σ (xs_Po σ (o_all S (nI j))) := by
      intro m
      induction m with
      | zero =>
        intro i z hi
        have hi : i = S.2.2.1.1.length := hi
        subst hi
        refine ax_iload (pc' := 22) rfl dX7_all_20 rfl ?_
        refine ax_aload_n (pc' := 23) rfl dX7_all_22 rfl ?_
        refine ax_getf (pc' := 26) fl_X7_26 X_o rfl dX7_all_23 rfl ?_
        refine ax_getf (pc' := 29) fl_X7_178 K_o rfl dX7_all_26 rfl ?_
        refine ax_icmp_ge (pc' := 32) (tgt := 82) dX7_all_29 (by decide) rfl (fun _ => ?_) (fun hz => absurd (nI_le (Nat.le_refl _) (by omega)) hz)
        refine ax_iload_n (pc' := 83) rfl dX7_all_82 rfl ?_
        refine ax_bipush (pc' := 85) (v := (-4)) kb_m4 dX7_all_83 rfl ?_
        cases ha : sp_al S.2.1 S.2.2.1.1 S.2.2.1.1.length with
        | none =>
          refine ax_icmp_ne (pc' := 88) (tgt := 91) dX7_all_85 (by decide) rfl (fun hz => absurd (rfl) hz) (fun _ => ?_)
          refine ax_bipush (pc' := 90) (v := (-4)) kb_m4 dX7_all_88 rfl ?_
          exact ax_iret dX7_all_90 rfl (Nat.le_of_ble_eq_true rfl) (Nat.le_of_ble_eq_true rfl) (⟨by simp [o_all, e, ha], hx0, ax_fr.rf⟩)
        | some q =>
          obtain ⟨q1, q2⟩ := sp_al_le hb hk (Nat.le_refl _) ha
          refine ax_icmp_ne (pc' := 88) (tgt := 91) dX7_all_85 (by decide) rfl (fun _ => ?_) (fun hz => absurd hz (nI_ne4 (by omega)))
          refine ax_iload_n (pc' := 92) rfl dX7_all_91 rfl ?_
          refine ax_iconst (pc' := 93) (v := (nI 2)) kc_2 dX7_all_92 rfl ?_
          obtain rfl | rfl | rfl : j = 0 ∨ j = 1 ∨ j = 2 := by omega
          · refine ax_icmp_ne (pc' := 96) (tgt := 107) dX7_all_93 (by decide) rfl (fun _ => ?_) (fun hz => absurd hz ((by decide)))
            refine ax_iload_n (pc' := 108) rfl dX7_all_107 rfl ?_
            refine ax_if_ne (pc' := 111) (tgt := 115) dX7_all_108 (by decide) rfl (fun hz => absurd (kz_0) hz) (fun _ => ?_)
            refine ax_iload_n (pc' := 112) rfl dX7_all_111 rfl ?_
            refine ax_goto (tgt := 116) dX7_all_112 (by decide) ?_
            exact ax_iret dX7_all_116 rfl (Nat.le_of_ble_eq_true rfl) (Nat.le_of_ble_eq_true rfl) (⟨by simp [o_all, e, ha, sp_o1, sp_o2], hx0, ax_fr.rf⟩)
          · refine ax_icmp_ne (pc' := 96) (tgt := 107) dX7_all_93 (by decide) rfl (fun _ => ?_) (fun hz => absurd hz ((by decide)))
            refine ax_iload_n (pc' := 108) rfl dX7_all_107 rfl ?_
            refine ax_if_ne (pc' := 111) (tgt := 115) dX7_all_108 (by decide) rfl (fun _ => ?_) (fun hz => absurd hz ((by decide)))
            refine ax_iload_n (pc' := 116) rfl dX7_all_115 rfl ?_
            exact ax_iret dX7_all_116 rfl (Nat.le_of_ble_eq_true rfl) (Nat.le_of_ble_eq_true rfl) (⟨by simp [o_all, e, ha, sp_o1, sp_o2], hx0, ax_fr.rf⟩)
          · refine ax_icmp_ne (pc' := 96) (tgt := 107) dX7_all_93 (by decide) rfl (fun hz => absurd (rfl) hz) (fun _ => ?_)
            refine ax_iload_n (pc' := 97) rfl dX7_all_96 rfl ?_
            refine ax_iload_n (pc' := 98) rfl dX7_all_97 rfl ?_
            by_cases hc : q.2 < q.1
            · refine ax_icmp_le (pc' := 101) (tgt := 105) dX7_all_98 (by decide) rfl (fun hz => absurd hz (nI_ge hc (by omega))) (fun _ => ?_)
              refine ax_iconst (pc' := 102) (v := (nI 1)) kc_1 dX7_all_101 rfl ?_
              refine ax_goto (tgt := 106) dX7_all_102 (by decide) ?_
              exact ax_iret dX7_all_106 rfl (Nat.le_of_ble_eq_true rfl) (Nat.le_of_ble_eq_true rfl) (⟨by simp [o_all, e, ha, hc], hx0, ax_fr.rf⟩)
            · refine ax_icmp_le (pc' := 101) (tgt := 105) dX7_all_98 (by decide) rfl (fun _ => ?_) (fun hz => absurd (nI_le (by omega) (by omega)) hz)
              refine ax_iconst (pc' := 106) (v := (nI 0)) kc_0 dX7_all_105 rfl ?_
              exact ax_iret dX7_all_106 rfl (Nat.le_of_ble_eq_true rfl) (Nat.le_of_ble_eq_true rfl) (⟨by simp [o_all, e, ha, hc], hx0, ax_fr.rf⟩)
      | succ m ih =>
        intro i z hi
        have hil : i < S.2.2.1.1.length := by omega
        obtain ⟨-, -, -, hn⟩ := hk.2 i hil
        have hu := (hb.2.2.2.2.2 (sp_at S.2.2.1.1 i).1).2.2.2.2
        have hls := sp_ls_some S.2.1 (sp_at S.2.2.1.1 i)
        have hl : (sp_ls S.2.1 (sp_at S.2.2.1.1 i)).getD 0 ≤ 4309200 := sp_go_le hn hu hls
        obtain ⟨lv, hlv⟩ : ∃ lv, lv = (sp_ls S.2.1 (sp_at S.2.2.1.1 i)).getD 0 := ⟨_, rfl⟩
        rw [← hlv] at hls hl
        refine ax_iload (pc' := 22) rfl dX7_all_20 rfl ?_
        refine ax_aload_n (pc' := 23) rfl dX7_all_22 rfl ?_
        refine ax_getf (pc' := 26) fl_X7_26 X_o rfl dX7_all_23 rfl ?_
        refine ax_getf (pc' := 29) fl_X7_178 K_o rfl dX7_all_26 rfl ?_
        refine ax_icmp_ge (pc' := 32) (tgt := 82) dX7_all_29 (by decide) rfl (fun hz => absurd hz (nI_ge hil (by omega))) (fun _ => ?_)
        refine ax_aload_n (pc' := 33) rfl dX7_all_32 rfl ?_
        refine ax_iload (pc' := 35) rfl dX7_all_33 rfl ?_
        refine ax_callVR (pc' := 38) lv_X7_175 (c_mostBy hX hK hk hil) X_o rfl rfl (Nat.le_of_ble_eq_true rfl) (Nat.le_of_ble_eq_true rfl) dX7_all_35 rfl ?_
        refine ax_istore (pc' := 40) rfl (Nat.le_of_ble_eq_true rfl) dX7_all_38 rfl ?_
        refine ax_iload (pc' := 42) rfl dX7_all_40 rfl ?_
        refine ax_bipush (pc' := 44) (v := (-4)) kb_m4 dX7_all_42 rfl ?_
        cases hm : sp_ms S.2.1 (sp_at S.2.2.1.1 i) with
        | none =>
          refine ax_icmp_eq (pc' := 47) (tgt := 76) dX7_all_44 (by decide) rfl (fun _ => ?_) (fun hz => absurd (rfl) hz)
          refine ax_iinc1 (pc' := 79) rfl rfl (Nat.le_of_ble_eq_true rfl) dX7_all_76 rfl ?_
          refine ax_goto (tgt := 20) dX7_all_79 (by decide) ?_
          have := ih (i + 1) (some (.int (sp_en none))) (by omega)
          simp only [sp_al, hm] at this
          exact this
        | some h =>
          have hh2 : h ≤ 4309200 := sp_go_le hn hu hm
          refine ax_icmp_eq (pc' := 47) (tgt := 76) dX7_all_44 (by decide) rfl (fun hz => absurd hz (nI_ne4 (by omega))) (fun _ => ?_)
          refine ax_iload_n (pc' := 48) rfl dX7_all_47 rfl ?_
          refine ax_aload_n (pc' := 49) rfl dX7_all_48 rfl ?_
          refine ax_iload (pc' := 51) rfl dX7_all_49 rfl ?_
          refine ax_callVR (pc' := 54) lv_X7_172 (c_leastBy hX hK hk hil) X_o rfl rfl (Nat.le_of_ble_eq_true rfl) (Nat.le_of_ble_eq_true rfl) dX7_all_51 rfl ?_
          rw [hls]
          have NXT : ∀ (l2 h2 : Nat), sp_al S.2.1 S.2.2.1.1 (i + 1) = some (l2, h2) → ax_J (mX7_all, 8, 0, 0) 0 0 75 [some (.ref 0), some (.int (nI j)), some (.int (nI l2)), some (.int (sp_o2 (sp_al S.2.1 S.2.2.1.1 i))), some (.int (nI i)), some (.int (nI h))] [.int (nI h2)] σ (xs_Po σ (o_all S (nI j))) := by
            intro l2 h2 hal
            refine ax_istore_n (pc' := 76) rfl (Nat.le_of_ble_eq_true rfl) dX7_all_75 rfl ?_
            refine ax_iinc1 (pc' := 79) rfl rfl (Nat.le_of_ble_eq_true rfl) dX7_all_76 rfl ?_
            refine ax_goto (tgt := 20) dX7_all_79 (by decide) ?_
            have := ih (i + 1) (some (.int (nI h))) (by omega)
            rw [hal] at this
            exact this
          cases ha : sp_al S.2.1 S.2.2.1.1 i with
          | none =>
            rw [ha] at NXT
            refine ax_callSR (pc' := 57) ls_X7_208 (c_maxN (by omega)) rfl rfl (Nat.le_of_ble_eq_true rfl) (Nat.le_of_ble_eq_true rfl) dX7_all_54 rfl ?_
            refine ax_istore_n (pc' := 58) rfl (Nat.le_of_ble_eq_true rfl) dX7_all_57 rfl ?_
            refine ax_iload_n (pc' := 59) rfl dX7_all_58 rfl ?_
            refine ax_bipush (pc' := 61) (v := (-4)) kb_m4 dX7_all_59 rfl ?_
            refine ax_icmp_ne (pc' := 64) (tgt := 69) dX7_all_61 (by decide) rfl (fun hz => absurd (rfl) hz) (fun _ => ?_)
            refine ax_iload (pc' := 66) rfl dX7_all_64 rfl ?_
            refine ax_goto (tgt := 75) dX7_all_66 (by decide) ?_
            exact NXT lv h (by simp only [sp_al, hm, ha, hlv])
          | some q =>
            obtain ⟨q1, q2⟩ := sp_al_le hb hk (by omega) ha
            rw [ha] at NXT
            refine ax_callSR (pc' := 57) ls_X7_208 (c_max (a := q.1) (b := lv) (by omega) (by omega)) rfl rfl (Nat.le_of_ble_eq_true rfl) (Nat.le_of_ble_eq_true rfl) dX7_all_54 rfl ?_
            refine ax_istore_n (pc' := 58) rfl (Nat.le_of_ble_eq_true rfl) dX7_all_57 rfl ?_
            refine ax_iload_n (pc' := 59) rfl dX7_all_58 rfl ?_
            refine ax_bipush (pc' := 61) (v := (-4)) kb_m4 dX7_all_59 rfl ?_
            refine ax_icmp_ne (pc' := 64) (tgt := 69) dX7_all_61 (by decide) rfl (fun _ => ?_) (fun hz => absurd hz (nI_ne4 (by omega)))
            refine ax_iload_n (pc' := 70) rfl dX7_all_69 rfl ?_
            refine ax_iload (pc' := 72) rfl dX7_all_70 rfl ?_
            refine ax_callSR (pc' := 75) ls_X7_213 (c_min (a := q.2) (b := h) (by omega) (by omega)) rfl rfl (Nat.le_of_ble_eq_true rfl) (Nat.le_of_ble_eq_true rfl) dX7_all_72 rfl ?_
            exact NXT _ _ (by simp only [sp_al, hm, ha, hlv])
    exact K S.2.2.1.1.length 0 none (Nat.zero_add _)
  · refine ax_callSR (pc' := 6) ls_X7_97 (c_withinF hv) rfl rfl (Nat.le_of_ble_eq_true rfl) (Nat.le_of_ble_eq_true rfl) dX7_all_3 rfl ?_
    refine ax_if_ne (pc' := 9) (tgt := 11) dX7_all_6 (by decide) rfl (fun hz => absurd (kz_0) hz) (fun _ => ?_)
    refine ax_iconst (pc' := 10) (v := (-1)) kc_m1 dX7_all_9 rfl ?_
    exact ax_iret dX7_all_10 rfl (Nat.le_of_ble_eq_true rfl) (Nat.le_of_ble_eq_true rfl) (⟨by simp [o_all, e], hx0, ax_fr.rf⟩)
theorem sp_wid_le {b : sp_B} {rs : List sp_rep} (hb : sp_ok b) (hk : bk_ok b rs) {w a c v : Nat} (h : sp_wid b rs w a c = some v) : v ≤ 4309200 := by
  have hu := hb.2.2.2.2.2 w
  have ht := sp_told_le hb hk (w := w) (a := a) (c := c) (kd := sp_K b w) (u := sp_U b w) (by omega)
  have hq := sp_go_lt (d := 0) ht hu.2.2.2.2
  unfold sp_wid at h
  split at h
  · cases h
  · cases h
    exact Nat.le_trans (Nat.sub_le _ _) (Nat.le_trans (Nat.div_le_self _ _) hq)
def sp_nok (o : Option (Nat × Nat)) : Prop := ∀ q, o = some q → q.1 ≤ 100 ∧ q.2 ≤ 4309200
theorem sp_nb_ok {b : sp_B} {rs : List sp_rep} (hb : sp_ok b) (hk : bk_ok b rs) {w a c : Nat} (ha : a < 6) (hc : c < 6) {o : Option (Nat × Nat)} (ho : sp_nok o) : sp_nok (sp_nb b rs w a c o) := by
  intro q h
  unfold sp_nb at h
  split at h
  · exact ho q h
  · rename_i v hv
    have := sp_wid_le hb hk hv
    split at h
    · cases h; exact ⟨by show 10 * a + c ≤ 100; omega, this⟩
    · rename_i q0
      split at h
      · cases h; exact ⟨by show 10 * a + c ≤ 100; omega, this⟩
      · cases h; exact ho _ rfl
theorem sp_ni_ok {b : sp_B} {rs : List sp_rep} (hb : sp_ok b) (hk : bk_ok b rs) {w a : Nat} (ha : a < 6) {o : Option (Nat × Nat)} (ho : sp_nok o) {j : Nat} (hj : j ≤ 6) : sp_nok (sp_ni b rs w a o j) := by
  induction j with
  | zero => exact ho
  | succ j ih =>
    simp only [sp_ni]
    split
    · exact sp_nb_ok hb hk ha (by omega) (ih (by omega))
    · exact ih (by omega)
theorem sp_no_ok {b : sp_B} {rs : List sp_rep} (hb : sp_ok b) (hk : bk_ok b rs) {w i : Nat} (hi : i ≤ 6) : sp_nok (sp_no b rs w i) := by
  induction i with
  | zero => intro q h; cases h
  | succ i ih => exact sp_ni_ok hb hk (by omega) (ih (by omega)) hb.2.1
theorem sp_ni_low {b : sp_B} {rs : List sp_rep} {w a : Nat} {o : Option (Nat × Nat)} {j : Nat} (hj : j ≤ a + 1) : sp_ni b rs w a o j = o := by
  induction j with
  | zero => rfl
  | succ j ih =>
    simp only [sp_ni]
    rw [if_neg (by omega)]
    exact ih (by omega)
theorem x_next (hx : xs_At σ.1 S) (hS : sp_Ok S) (v u : Int32) : ax_N mX7_next 8 0 0 [.ref 0, .int v, .int u] σ (xs_Po σ (o_next S v u)) := by
  have hx0 := hx
  obtain ⟨pb, pq, ts, hpp, hX, hPa, hRd, hK, -⟩ := hx
  have X_o := hX.1
  obtain ⟨-, ⟨fr, hB, hrd⟩, hb, hp⟩ := id hX
  have B_o : σ.1 pb = _ := hB.choose_spec.choose_spec.choose_spec.choose_spec.choose_spec.choose_spec.1
  have hk := hS.2.2.2.1
  have h6 := hb.2.1
  have h4 := hb.2.2.1
  refine ax_N.of (ls := [some (.ref 0), some (.int v), some (.int u), none, none, none, none, none]) (by decide +kernel) rfl (Nat.le_of_ble_eq_true rfl) ?_
  have NO : ∀ zz, o_next S v u = (-1, S) → ax_J (mX7_next, 8, 0, 0) 0 0 20 zz [] σ (xs_Po σ (o_next S v u)) := by
    intro zz ho
    rw [ho]
    refine ax_iconst (pc' := 21) (v := (-1)) kc_m1 dX7_next_20 rfl ?_
    exact ax_iret dX7_next_21 rfl (Nat.le_of_ble_eq_true rfl) (Nat.le_of_ble_eq_true rfl) (⟨rfl, hx0, ax_fr.rf⟩)
  refine ax_aload_n (pc' := 1) rfl dX7_next_0 rfl ?_
  refine ax_getf (pc' := 4) fl_X7_63 X_o rfl dX7_next_1 rfl ?_
  refine ax_iload_n (pc' := 5) rfl dX7_next_4 rfl ?_
  rcases sp_ix_cases v (n := S.2.1.2.2.1) (by omega) with ⟨w, hw, rfl, e1⟩ | ⟨hv, e1⟩
  · refine ax_callVR (pc' := 8) lv_X7_142 (c_isWalkerT hB h4 hw) B_o rfl rfl (Nat.le_of_ble_eq_true rfl) (Nat.le_of_ble_eq_true rfl) dX7_next_5 rfl ?_
    refine ax_if_eq (pc' := 11) (tgt := 20) dX7_next_8 (by decide) rfl (fun hz => absurd hz (kz_1)) (fun _ => ?_)
    refine ax_iload_n (pc' := 12) rfl dX7_next_11 rfl ?_
    refine ax_iconst (pc' := 13) (v := (nI 0)) kc_0 dX7_next_12 rfl ?_
    refine ax_iconst (pc' := 14) (v := (nI 1)) kc_1 dX7_next_13 rfl ?_
    rcases sp_in_cases u (lo := 0) (hi := 1) (by decide) (by decide) with ⟨t, t1, t2, rfl, e2⟩ | ⟨hu, e2⟩
    · refine ax_callSR (pc' := 17) ls_X7_97 (c_withinT (nI_le t1 (by omega)) (nI_le t2 (by decide))) rfl rfl (Nat.le_of_ble_eq_true rfl) (Nat.le_of_ble_eq_true rfl) dX7_next_14 rfl ?_
      refine ax_if_ne (pc' := 20) (tgt := 22) dX7_next_17 (by decide) rfl (fun _ => ?_) (fun hz => absurd hz (kz_1))
      refine ax_bipush (pc' := 24) (v := (-4)) kb_m4 dX7_next_22 rfl ?_
      refine ax_istore_n (pc' := 25) rfl (Nat.le_of_ble_eq_true rfl) dX7_next_24 rfl ?_
      refine ax_bipush (pc' := 27) (v := (-4)) kb_m4 dX7_next_25 rfl ?_
      refine ax_istore (pc' := 29) rfl (Nat.le_of_ble_eq_true rfl) dX7_next_27 rfl ?_
      refine ax_iconst (pc' := 30) (v := (nI 0)) kc_0 dX7_next_29 rfl ?_
      refine ax_istore (pc' := 32) rfl (Nat.le_of_ble_eq_true rfl) dX7_next_30 rfl ?_
      have K : ∀ m i (z6 z7 : Int32) (y6 y7 : Option Value), (y6 = none ∨ y6 = some (.int z6)) → (y7 = none ∨ y7 = some (.int z7)) → i + m = S.2.1.2.1 → ax_J (mX7_next, 8, 0, 0) 0 0 32 [some (.ref 0), some (.int (nI w)), some (.int (nI t)), some (.int (sp_o1 (sp_no S.2.1 S.2.2.1.1 w i))), some (.int (sp_o2 (sp_no S.2.1 S.2.2.1.1 w i))), some (.int (nI i)), y6, y7] [] σ (xs_Po σ (o_next S (nI w) (nI t))) := by
        intro m
        induction m with
        | zero =>
          intro i z6 z7 y6 y7 hy6 hy7 hi
          have hi : i = S.2.1.2.1 := hi
          subst hi
          refine ax_iload (pc' := 34) rfl dX7_next_32 rfl ?_
          refine ax_aload_n (pc' := 35) rfl dX7_next_34 rfl ?_
          refine ax_getf (pc' := 38) fl_X7_63 X_o rfl dX7_next_35 rfl ?_
          refine ax_getf (pc' := 41) fl_X7_103 B_o rfl dX7_next_38 rfl ?_
          refine ax_icmp_ge (pc' := 44) (tgt := 118) dX7_next_41 (by decide) rfl (fun _ => ?_) (fun hz => absurd (nI_le (Nat.le_refl _) (by omega)) hz)
          refine ax_iload_n (pc' := 119) rfl dX7_next_118 rfl ?_
          obtain rfl | rfl : t = 0 ∨ t = 1 := by omega
          · refine ax_if_ne (pc' := 122) (tgt := 126) dX7_next_119 (by decide) rfl (fun hz => absurd (kz_0) hz) (fun _ => ?_)
            refine ax_iload_n (pc' := 123) rfl dX7_next_122 rfl ?_
            refine ax_goto (tgt := 128) dX7_next_123 (by decide) ?_
            exact ax_iret dX7_next_128 rfl (Nat.le_of_ble_eq_true rfl) (Nat.le_of_ble_eq_true rfl) (⟨by simp [o_next, e1, e2], hx0, ax_fr.rf⟩)
          · refine ax_if_ne (pc' := 122) (tgt := 126) dX7_next_119 (by decide) rfl (fun _ => ?_) (fun hz => absurd hz (kz_1))
            refine ax_iload (pc' := 128) rfl dX7_next_126 rfl ?_
            exact ax_iret dX7_next_128 rfl (Nat.le_of_ble_eq_true rfl) (Nat.le_of_ble_eq_true rfl) (⟨by simp [o_next, e1, e2], hx0, ax_fr.rf⟩)
        | succ m ih =>
          intro i z6 z7 y6 y7 hy6 hy7 hi
          have hil : i < S.2.1.2.1 := by omega
          have hno := sp_no_ok hb hk (w := w) (i := i) (by omega)
          obtain ⟨o, ho⟩ : ∃ o, o = sp_no S.2.1 S.2.2.1.1 w i := ⟨_, rfl⟩
          rw [← ho] at hno ⊢
          have K2 : ∀ m2 j (z7 : Int32) (y7 : Option Value), (y7 = none ∨ y7 = some (.int z7)) → j + m2 = S.2.1.2.1 → i < j → ax_J (mX7_next, 8, 0, 0) 0 0 50 [some (.ref 0), some (.int (nI w)), some (.int (nI t)), some (.int (sp_o1 (sp_ni S.2.1 S.2.2.1.1 w i o j))), some (.int (sp_o2 (sp_ni S.2.1 S.2.2.1.1 w i o j))), some (.int (nI i)), some (.int (nI j)), y7] [] σ (xs_Po σ (o_next S (nI w) (nI t))) := by
            intro m2
            induction m2 with
            | zero =>
              intro j z7 y7 hy7 hj hij
              have hj : j = S.2.1.2.1 := hj
              subst hj
              refine ax_iload (pc' := 52) rfl dX7_next_50 rfl ?_
              refine ax_aload_n (pc' := 53) rfl dX7_next_52 rfl ?_
              refine ax_getf (pc' := 56) fl_X7_63 X_o rfl dX7_next_53 rfl ?_
              refine ax_getf (pc' := 59) fl_X7_103 B_o rfl dX7_next_56 rfl ?_
              refine ax_icmp_ge (pc' := 62) (tgt := 112) dX7_next_59 (by decide) rfl (fun _ => ?_) (fun hz => absurd (nI_le (Nat.le_refl _) (by omega)) hz)
              refine ax_iinc1 (pc' := 115) rfl rfl (Nat.le_of_ble_eq_true rfl) dX7_next_112 rfl ?_
              refine ax_goto (tgt := 32) dX7_next_115 (by decide) ?_
              have := ih (i + 1) (nI S.2.1.2.1) z7 (some (.int (nI S.2.1.2.1))) y7 (Or.inr rfl) hy7 (by omega)
              simp only [sp_no, ← ho] at this
              exact this
            | succ m2 ih2 =>
              intro j z7 y7 hy7 hj hij
              have hni := sp_ni_ok hb hk (w := w) (a := i) (by omega) hno (j := j) (by omega)
              have hst : sp_ni S.2.1 S.2.2.1.1 w i o (j + 1) = sp_nb S.2.1 S.2.2.1.1 w i j (sp_ni S.2.1 S.2.2.1.1 w i o j) := by simp only [sp_ni, hij, if_true]
              obtain ⟨q, hq⟩ : ∃ q, q = sp_ni S.2.1 S.2.2.1.1 w i o j := ⟨_, rfl⟩
              rw [← hq] at hni hst ⊢
              refine ax_iload (pc' := 52) rfl dX7_next_50 rfl ?_
              refine ax_aload_n (pc' := 53) rfl dX7_next_52 rfl ?_
              refine ax_getf (pc' := 56) fl_X7_63 X_o rfl dX7_next_53 rfl ?_
              refine ax_getf (pc' := 59) fl_X7_103 B_o rfl dX7_next_56 rfl ?_
              refine ax_icmp_ge (pc' := 62) (tgt := 112) dX7_next_59 (by decide) rfl (fun hz => absurd hz (nI_ge (by omega) (by omega))) (fun _ => ?_)
              refine ax_aload_n (pc' := 63) rfl dX7_next_62 rfl ?_
              refine ax_iload_n (pc' := 64) rfl dX7_next_63 rfl ?_
              refine ax_iload (pc' := 66) rfl dX7_next_64 rfl ?_
              refine ax_iload (pc' := 68) rfl dX7_next_66 rfl ?_
              refine ax_callVR (pc' := 71) lv_X7_216 (c_widthOfNext hX hK hk hw hil (show j < S.2.1.2.1 by omega)) X_o rfl rfl (Nat.le_of_ble_eq_true rfl) (Nat.le_of_ble_eq_true rfl) dX7_next_68 rfl ?_
              have SAME : ∀ x7 : Int32, sp_nb S.2.1 S.2.2.1.1 w i j q = q → ax_J (mX7_next, 8, 0, 0) 0 0 106 [some (.ref 0), some (.int (nI w)), some (.int (nI t)), some (.int (sp_o1 q)), some (.int (sp_o2 q)), some (.int (nI i)), some (.int (nI j)), some (.int x7)] [] σ (xs_Po σ (o_next S (nI w) (nI t))) := by
                intro x7 he
                refine ax_iinc1 (pc' := 109) rfl rfl (Nat.le_of_ble_eq_true rfl) dX7_next_106 rfl ?_
                refine ax_goto (tgt := 50) dX7_next_109 (by decide) ?_
                have := ih2 (j + 1) x7 (some (.int x7)) (Or.inr rfl) (by omega) (by omega)
                rw [hst, he] at this
                exact this
              rcases hy7 with rfl | rfl
              all_goals
                refine ax_istore (pc' := 73) rfl (Nat.le_of_ble_eq_true rfl) dX7_next_71 rfl ?_
                refine ax_iload (pc' := 75) rfl dX7_next_73 rfl ?_
                refine ax_bipush (pc' := 77) (v := (-4)) kb_m4 dX7_next_75 rfl ?_
                cases hwd : sp_wid S.2.1 S.2.2.1.1 w i j with
                | none =>
                  refine ax_icmp_eq (pc' := 80) (tgt := 106) dX7_next_77 (by decide) rfl (fun _ => ?_) (fun hz => absurd (rfl) hz)
                  exact SAME _ (by simp only [sp_nb, hwd])
                | some x =>
                  have hxl := sp_wid_le hb hk hwd
                  have TAKE : sp_nb S.2.1 S.2.2.1.1 w i j q = some (10 * i + j, x) → ax_J (mX7_next, 8, 0, 0) 0 0 93 [some (.ref 0), some (.int (nI w)), some (.int (nI t)), some (.int (sp_o1 q)), some (.int (sp_o2 q)), some (.int (nI i)), some (.int (nI j)), some (.int (nI x))] [] σ (xs_Po σ (o_next S (nI w) (nI t))) := by
                    intro he
                    refine ax_bipush (pc' := 95) (v := (nI 10)) kb_10 dX7_next_93 rfl ?_
                    refine ax_iload (pc' := 97) rfl dX7_next_95 rfl ?_
                    refine ax_imul (pc' := 98) dX7_next_97 rfl ?_
                    refine ax_iload (pc' := 100) rfl dX7_next_98 rfl ?_
                    refine ax_iadd (pc' := 101) dX7_next_100 rfl ?_
                    refine ax_topi (v' := nI (10 * i + j)) (by rw [pk_mul, nI_add]) ?_
                    refine ax_istore_n (pc' := 102) rfl (Nat.le_of_ble_eq_true rfl) dX7_next_101 rfl ?_
                    refine ax_iload (pc' := 104) rfl dX7_next_102 rfl ?_
                    refine ax_istore (pc' := 106) rfl (Nat.le_of_ble_eq_true rfl) dX7_next_104 rfl ?_
                    refine ax_iinc1 (pc' := 109) rfl rfl (Nat.le_of_ble_eq_true rfl) dX7_next_106 rfl ?_
                    refine ax_goto (tgt := 50) dX7_next_109 (by decide) ?_
                    have := ih2 (j + 1) (nI x) (some (.int (nI x))) (Or.inr rfl) (by omega) (by omega)
                    rw [hst, he] at this
                    exact this
                  refine ax_icmp_eq (pc' := 80) (tgt := 106) dX7_next_77 (by decide) rfl (fun hz => absurd hz (nI_ne4 (by omega))) (fun _ => ?_)
                  refine ax_iload_n (pc' := 81) rfl dX7_next_80 rfl ?_
                  refine ax_bipush (pc' := 83) (v := (-4)) kb_m4 dX7_next_81 rfl ?_
                  cases hqq : q with
                  | none =>
                    rw [hqq] at TAKE
                    refine ax_icmp_eq (pc' := 86) (tgt := 93) dX7_next_83 (by decide) rfl (fun _ => ?_) (fun hz => absurd (rfl) hz)
                    exact TAKE (by simp only [sp_nb, hwd])
                  | some q0 =>
                    obtain ⟨l1, l2⟩ := hni q0 hqq
                    rw [hqq] at TAKE SAME
                    refine ax_icmp_eq (pc' := 86) (tgt := 93) dX7_next_83 (by decide) rfl (fun hz => absurd hz (nI_ne4 (by omega))) (fun _ => ?_)
                    refine ax_iload (pc' := 88) rfl dX7_next_86 rfl ?_
                    refine ax_iload (pc' := 90) rfl dX7_next_88 rfl ?_
                    by_cases hlt : x < q0.2
                    · refine ax_icmp_ge (pc' := 93) (tgt := 106) dX7_next_90 (by decide) rfl (fun hz => absurd hz (nI_ge hlt (by omega))) (fun _ => ?_)
                      exact TAKE (by simp only [sp_nb, hwd, hlt, if_true])
                    · refine ax_icmp_ge (pc' := 93) (tgt := 106) dX7_next_90 (by decide) rfl (fun _ => ?_) (fun hz => absurd (nI_le (by omega) (by omega)) hz)
                      exact SAME _ (by simp only [sp_nb, hwd, hlt, if_false])
          rcases hy6 with rfl | rfl
          all_goals
            refine ax_iload (pc' := 34) rfl dX7_next_32 rfl ?_
            refine ax_aload_n (pc' := 35) rfl dX7_next_34 rfl ?_
            refine ax_getf (pc' := 38) fl_X7_63 X_o rfl dX7_next_35 rfl ?_
            refine ax_getf (pc' := 41) fl_X7_103 B_o rfl dX7_next_38 rfl ?_
            refine ax_icmp_ge (pc' := 44) (tgt := 118) dX7_next_41 (by decide) rfl (fun hz => absurd hz (nI_ge hil (by omega))) (fun _ => ?_)
            refine ax_iload (pc' := 46) rfl dX7_next_44 rfl ?_
            refine ax_iconst (pc' := 47) (v := (nI 1)) kc_1 dX7_next_46 rfl ?_
            refine ax_iadd (pc' := 48) dX7_next_47 rfl ?_
            refine ax_topi (nI_add i 1) ?_
            refine ax_istore (pc' := 50) rfl (Nat.le_of_ble_eq_true rfl) dX7_next_48 rfl ?_
            have := K2 (S.2.1.2.1 - (i + 1)) (i + 1) z7 y7 hy7 (by omega) (by omega)
            rw [sp_ni_low (by omega)] at this
            exact this
      exact K S.2.1.2.1 0 0 0 none none (Or.inl rfl) (Or.inl rfl) (Nat.zero_add _)
    · refine ax_callSR (pc' := 17) ls_X7_97 (c_withinF hu) rfl rfl (Nat.le_of_ble_eq_true rfl) (Nat.le_of_ble_eq_true rfl) dX7_next_14 rfl ?_
      refine ax_if_ne (pc' := 20) (tgt := 22) dX7_next_17 (by decide) rfl (fun hz => absurd (kz_0) hz) (fun _ => ?_)
      exact NO _ (by simp [o_next, e1, e2])
  · refine ax_callVR (pc' := 8) lv_X7_142 (c_isWalkerF hB h4 hv) B_o rfl rfl (Nat.le_of_ble_eq_true rfl) (Nat.le_of_ble_eq_true rfl) dX7_next_5 rfl ?_
    refine ax_if_eq (pc' := 11) (tgt := 20) dX7_next_8 (by decide) rfl (fun _ => ?_) (fun hz => absurd (kz_0) hz)
    exact NO _ (by simp [o_next, e1])
end XB
