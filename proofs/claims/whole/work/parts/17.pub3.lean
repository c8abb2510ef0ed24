/-! ===== the class's calls, third part ===== -/
theorem sp_fs_mono {P : Nat → Bool} {m k s : Nat} (h : sp_fs P m k = some s) {k' : Nat} (hk : k ≤ k') : sp_fs P m k' = some s := by
  induction k' with
  | zero =>
    have : k = 0 := by omega
    subst this
    exact h
  | succ k' ih =>
    by_cases e : k = k' + 1
    · subst e; exact h
    · simp only [sp_fs, ih (by omega)]
/-- no set of fewer than m (of 1 to 4) -/
def sp_nf (P : Nat → Bool) (N m : Nat) : Prop := ∀ j, 1 ≤ j → j < m → sp_fs P j N = none
theorem sp_few_hit {P : Nat → Bool} {N m s : Nat} (h1 : 1 ≤ m) (h4 : m ≤ 4) (hn : sp_nf P N m) (h : sp_fs P m N = some s) : sp_few P N = some s := by
  unfold sp_few
  obtain rfl | rfl | rfl | rfl : m = 1 ∨ m = 2 ∨ m = 3 ∨ m = 4 := by omega
  · rw [h]
  · rw [hn 1 (by omega) (by omega), h]
  · rw [hn 1 (by omega) (by omega), hn 2 (by omega) (by omega), h]
  · rw [hn 1 (by omega) (by omega), hn 2 (by omega) (by omega), hn 3 (by omega) (by omega), h]
theorem sp_few_none {P : Nat → Bool} {N : Nat} (hn : sp_nf P N 5) : sp_few P N = none := by
  unfold sp_few
  rw [hn 1 (by omega) (by omega), hn 2 (by omega) (by omega), hn 3 (by omega) (by omega), hn 4 (by omega) (by omega)]
theorem sp_bits_9 : ∀ s, s < 512 → sp_bits s 9 ≤ 9 := by decide +kernel
section XC
variable {σ : ax_S} {S : sp_S}
theorem x_fewest (hx : xs_At σ.1 S) (hS : sp_Ok S) (v u : Int32) : ax_N mX7_fewest 8 0 0 [.ref 0, .int v, .int u] σ (xs_Po σ (o_fewest S v u)) := by
  have hx0 := hx
  obtain ⟨pb, pq, ts, hpp, hX, hPa, hRd, hK, hY, hK1, hK2, hT, hto, hSg, hG, hQ⟩ := hx
  have X_o := hX.1
  obtain ⟨-, ⟨fr, hB, hrd⟩, hb, hp⟩ := id hX
  have hk := hS.2.2.2.1
  have h9 := hk.1
  have G_o : σ.1 37 = _ := hG.choose_spec.choose_spec.choose_spec.1
  refine ax_N.of (ls := [some (.ref 0), some (.int v), some (.int u), none, none]) (by decide +kernel) rfl (Nat.le_of_ble_eq_true rfl) ?_
  have NO : ∀ zz, o_fewest S v u = (-1, S) → ax_J (mX7_fewest, 8, 0, 0) 0 0 19 zz [] σ (xs_Po σ (o_fewest S v u)) := by
    intro zz ho
    rw [ho]
    refine ax_iconst (pc' := 20) (v := (-1)) kc_m1 dX7_fewest_19 rfl ?_
    exact ax_iret dX7_fewest_20 rfl (Nat.le_of_ble_eq_true rfl) (Nat.le_of_ble_eq_true rfl) (⟨rfl, hx0, ax_fr.rf⟩)
  refine ax_iload_n (pc' := 1) rfl dX7_fewest_0 rfl ?_
  refine ax_iconst (pc' := 2) (v := (nI 0)) kc_0 dX7_fewest_1 rfl ?_
  refine ax_bipush (pc' := 4) (v := (nI 99)) kb_99 dX7_fewest_2 rfl ?_
  rcases sp_in_cases v (lo := 0) (hi := 99) (by decide) (by decide) with ⟨e, -, he, rfl, e1⟩ | ⟨hv, e1⟩
  · refine ax_callSR (pc' := 7) ls_X7_97 (c_withinT (nI_le (Nat.zero_le _) (by omega)) (nI_le he (by decide))) rfl rfl (Nat.le_of_ble_eq_true rfl) (Nat.le_of_ble_eq_true rfl) dX7_fewest_4 rfl ?_
    refine ax_if_eq (pc' := 10) (tgt := 19) dX7_fewest_7 (by decide) rfl (fun hz => absurd hz (kz_1)) (fun _ => ?_)
    refine ax_iload_n (pc' := 11) rfl dX7_fewest_10 rfl ?_
    refine ax_iconst (pc' := 12) (v := (nI 0)) kc_0 dX7_fewest_11 rfl ?_
    refine ax_iconst (pc' := 13) (v := (nI 1)) kc_1 dX7_fewest_12 rfl ?_
    rcases sp_in_cases u (lo := 0) (hi := 1) (by decide) (by decide) with ⟨t, t1, t2, rfl, e2⟩ | ⟨hu, e2⟩
    · refine ax_callSR (pc' := 16) ls_X7_97 (c_withinT (nI_le t1 (by omega)) (nI_le t2 (by decide))) rfl rfl (Nat.le_of_ble_eq_true rfl) (Nat.le_of_ble_eq_true rfl) dX7_fewest_13 rfl ?_
      refine ax_if_ne (pc' := 19) (tgt := 21) dX7_fewest_16 (by decide) rfl (fun _ => ?_) (fun hz => absurd hz (kz_1))
      refine ax_aload_n (pc' := 22) rfl dX7_fewest_21 rfl ?_
      refine ax_getf (pc' := 25) fl_X7_56 X_o rfl dX7_fewest_22 rfl ?_
      refine ax_aload_n (pc' := 26) rfl dX7_fewest_25 rfl ?_
      refine ax_getf (pc' := 29) fl_X7_63 X_o rfl dX7_fewest_26 rfl ?_
      refine ax_aload_n (pc' := 30) rfl dX7_fewest_29 rfl ?_
      refine ax_getf (pc' := 33) fl_X7_26 X_o rfl dX7_fewest_30 rfl ?_
      refine ax_callVG (pc' := 36) lv_X7_219 (c_reckon hG hB hb hK hk hp (by omega)) G_o rfl rfl (Nat.le_of_ble_eq_true rfl) (Nat.le_of_ble_eq_true rfl) dX7_fewest_33 rfl (fun r σ' hr => ?_)
      obtain ⟨rfl, hG2, hF⟩ := hr
      have hx' : xs_At σ'.1 S := ⟨pb, pq, ts, hpp, hX.on (hF.2 0 (by omega)) (fun z _ _ => hF.2 z (by omega)), hPa.on (fun z _ _ => hF.2 z (by omega)), hRd.on (fun z _ _ => hF.2 z (by omega)), hK.on (fun z _ _ => hF.2 z (by omega)), hY.on (fun z _ _ => hF.2 z (by omega)), hK1.on (fun z _ _ => hF.2 z (by omega)), hK2.on (fun z _ _ => hF.2 z (by omega)), hT.on (fun z _ _ => hF.2 z (by omega)), hto, hSg.on (fun z _ _ => hF.2 z (by omega)), hG2.any, hQ.on (fun z _ _ => hF.2 z (by omega))⟩
      have hF0 : ax_fr 0 56 σ σ' := ax_fr.rf.tr hF (by omega) (by omega)
      have X_o := hF.at X_o (by omega)
      have hB2 := hB.fr hF (by omega)
      have hKx := hK.fr hF (by omega)
      have G_o : σ'.1 37 = _ := hG2.choose_spec.choose_spec.1
      have K_o : σ'.1 5 = _ := hKx.choose_spec.choose_spec.choose_spec.choose_spec.1
      have B_o : σ'.1 pb = _ := hB2.choose_spec.choose_spec.choose_spec.choose_spec.choose_spec.choose_spec.1
      have hpw : 2 ^ S.2.2.1.1.length ≤ 2 ^ 9 := Nat.pow_le_pow_right (by decide) h9
      obtain ⟨N, hN⟩ : ∃ N, N = 2 ^ S.2.2.1.1.length := ⟨_, rfl⟩
      rw [← hN] at hpw
      have hN1 : 1 ≤ N := by rw [hN]; exact Nat.one_le_two_pow
      refine ax_iconst (pc' := 37) (v := (nI 1)) kc_1 dX7_fewest_36 rfl ?_
      refine ax_istore_n (pc' := 38) rfl (Nat.le_of_ble_eq_true rfl) dX7_fewest_37 rfl ?_
      have K : ∀ m i (z : Option Value), i + m = 5 → 1 ≤ i → sp_nf (sp_nr S e) N i → ax_J (mX7_fewest, 8, 0, 0) 0 0 38 [some (.ref 0), some (.int (nI e)), some (.int (nI t)), some (.int (nI i)), z] [] σ' (xs_Po σ (o_fewest S (nI e) (nI t))) := by
        intro m
        induction m with
        | zero =>
          intro i z hi h1 hnf
          have hi : i = 5 := hi
          subst hi
          refine ax_iload_n (pc' := 39) rfl dX7_fewest_38 rfl ?_
          refine ax_iconst (pc' := 40) (v := (nI 4)) kc_4 dX7_fewest_39 rfl ?_
          refine ax_icmp_gt (pc' := 43) (tgt := 113) dX7_fewest_40 (by decide) rfl (fun _ => ?_) (fun hz => absurd ((by decide)) hz)
          refine ax_bipush (pc' := 115) (v := (-4)) kb_m4 dX7_fewest_113 rfl ?_
          exact ax_iret dX7_fewest_115 rfl (Nat.le_of_ble_eq_true rfl) (Nat.le_of_ble_eq_true rfl) (⟨by simp [o_fewest, e1, e2, ← hN, sp_few_none hnf], hx', hF0⟩)
        | succ m ih =>
          intro i z hi h1 hnf
          refine ax_iload_n (pc' := 39) rfl dX7_fewest_38 rfl ?_
          refine ax_iconst (pc' := 40) (v := (nI 4)) kc_4 dX7_fewest_39 rfl ?_
          refine ax_icmp_gt (pc' := 43) (tgt := 113) dX7_fewest_40 (by decide) rfl (fun hz => absurd hz (nI_nlt (by omega) (by omega))) (fun _ => ?_)
          refine ax_iconst (pc' := 44) (v := (nI 1)) kc_1 dX7_fewest_43 rfl ?_
          refine ax_istore (pc' := 46) rfl (Nat.le_of_ble_eq_true rfl) dX7_fewest_44 rfl ?_
          have K2 : ∀ m2 s, s + m2 = N → 1 ≤ s → sp_fs (sp_nr S e) i s = none → ax_J (mX7_fewest, 8, 0, 0) 0 0 46 [some (.ref 0), some (.int (nI e)), some (.int (nI t)), some (.int (nI i)), some (.int (nI s))] [] σ' (xs_Po σ (o_fewest S (nI e) (nI t))) := by
            intro m2
            induction m2 with
            | zero =>
              intro s hs hs1 hfs
              have hs : s = N := hs
              subst hs
              refine ax_iload (pc' := 48) rfl dX7_fewest_46 rfl ?_
              refine ax_iconst (pc' := 49) (v := (nI 1)) kc_1 dX7_fewest_48 rfl ?_
              refine ax_aload_n (pc' := 50) rfl dX7_fewest_49 rfl ?_
              refine ax_getf (pc' := 53) fl_X7_26 X_o rfl dX7_fewest_50 rfl ?_
              refine ax_getf (pc' := 56) fl_X7_178 K_o rfl dX7_fewest_53 rfl ?_
              refine ax_ishl (pc' := 57) dX7_fewest_56 rfl ?_
              refine ax_topi (v' := nI s) (by rw [hN]; exact sp_shl1 _ (by omega)) ?_
              refine ax_icmp_ge (pc' := 60) (tgt := 107) dX7_fewest_57 (by decide) rfl (fun _ => ?_) (fun hz => absurd (nI_le (Nat.le_refl _) (by omega)) hz)
              refine ax_iinc1 (pc' := 110) rfl rfl (Nat.le_of_ble_eq_true rfl) dX7_fewest_107 rfl ?_
              refine ax_goto (tgt := 38) dX7_fewest_110 (by decide) ?_
              refine ih (i + 1) _ (by omega) (by omega) (fun j j1 j2 => ?_)
              by_cases ej : j = i
              · subst ej; exact hfs
              · exact hnf j j1 (by omega)
            | succ m2 ih2 =>
              intro s hs hs1 hfs
              have hb9 := sp_bits_9 s (by omega)
              refine ax_iload (pc' := 48) rfl dX7_fewest_46 rfl ?_
              refine ax_iconst (pc' := 49) (v := (nI 1)) kc_1 dX7_fewest_48 rfl ?_
              refine ax_aload_n (pc' := 50) rfl dX7_fewest_49 rfl ?_
              refine ax_getf (pc' := 53) fl_X7_26 X_o rfl dX7_fewest_50 rfl ?_
              refine ax_getf (pc' := 56) fl_X7_178 K_o rfl dX7_fewest_53 rfl ?_
              refine ax_ishl (pc' := 57) dX7_fewest_56 rfl ?_
              refine ax_topi (v' := nI N) (by rw [hN]; exact sp_shl1 _ (by omega)) ?_
              refine ax_icmp_ge (pc' := 60) (tgt := 107) dX7_fewest_57 (by decide) rfl (fun hz => absurd hz (nI_ge (by omega) (by omega))) (fun _ => ?_)
              refine ax_iload (pc' := 62) rfl dX7_fewest_60 rfl ?_
              refine ax_callSR (pc' := 65) ls_X7_223 (c_bitCount (s := s) (by omega)) rfl rfl (Nat.le_of_ble_eq_true rfl) (Nat.le_of_ble_eq_true rfl) dX7_fewest_62 rfl ?_
              refine ax_iload_n (pc' := 66) rfl dX7_fewest_65 rfl ?_
              have NX : ¬ (1 ≤ s ∧ sp_bits s 9 = i ∧ sp_nr S e s = true) → ax_J (mX7_fewest, 8, 0, 0) 0 0 101 [some (.ref 0), some (.int (nI e)), some (.int (nI t)), some (.int (nI i)), some (.int (nI s))] [] σ' (xs_Po σ (o_fewest S (nI e) (nI t))) := by
                intro hn
                refine ax_iinc1 (pc' := 104) rfl rfl (Nat.le_of_ble_eq_true rfl) dX7_fewest_101 rfl ?_
                refine ax_goto (tgt := 46) dX7_fewest_104 (by decide) ?_
                exact ih2 (s + 1) (by omega) (by omega) (by simp only [sp_fs, hfs, if_neg hn])
              by_cases hbi : sp_bits s 9 = i
              · refine ax_icmp_ne (pc' := 69) (tgt := 101) dX7_fewest_66 (by decide) rfl (fun hz => absurd (by rw [hbi]) hz) (fun _ => ?_)
                refine ax_aload_n (pc' := 70) rfl dX7_fewest_69 rfl ?_
                refine ax_getf (pc' := 73) fl_X7_63 X_o rfl dX7_fewest_70 rfl ?_
                refine ax_aload_n (pc' := 74) rfl dX7_fewest_73 rfl ?_
                refine ax_getf (pc' := 77) fl_X7_56 X_o rfl dX7_fewest_74 rfl ?_
                refine ax_iload (pc' := 79) rfl dX7_fewest_77 rfl ?_
                refine ax_iconst (pc' := 80) (v := (nI 0)) kc_0 dX7_fewest_79 rfl ?_
                refine ax_callVR (pc' := 83) lv_X7_228 (c_meanOf hG2 hb hk (ms := s) (sh := 0) (by omega) (by decide)) G_o rfl rfl (Nat.le_of_ble_eq_true rfl) (Nat.le_of_ble_eq_true rfl) dX7_fewest_80 rfl ?_
                refine ax_iload_n (pc' := 84) rfl dX7_fewest_83 rfl ?_
                refine ax_callVR (pc' := 87) lv_X7_231 (c_isNear hB2 hb (fun m hm => Nat.le_trans (sp_mean_le (fun i m hi h => sp_sel_le hb hk hi h) hm) (by decide)) he) B_o rfl rfl (Nat.le_of_ble_eq_true rfl) (Nat.le_of_ble_eq_true rfl) dX7_fewest_84 rfl ?_
                by_cases hp : sp_nr S e s = true
                · have hfew : sp_few (sp_nr S e) N = some s := sp_few_hit h1 (by omega) hnf (sp_fs_mono (k := s + 1) (by simp only [sp_fs, hfs, if_pos (show 1 ≤ s ∧ sp_bits s 9 = i ∧ sp_nr S e s = true from ⟨hs1, hbi, hp⟩)]) (by omega))
                  refine ax_if_eq (pc' := 90) (tgt := 101) dX7_fewest_87 (by decide) rfl (fun hz => absurd hz (by rw [show sp_near S.2.1.1 e (sp_mean (sp_sel S.2.1 S.2.2.1.1 s 0) S.2.2.1.1.length) = true from hp]; exact kz_1)) (fun _ => ?_)
                  refine ax_iload_n (pc' := 91) rfl dX7_fewest_90 rfl ?_
                  obtain rfl | rfl : t = 0 ∨ t = 1 := by omega
                  · refine ax_if_ne (pc' := 94) (tgt := 98) dX7_fewest_91 (by decide) rfl (fun hz => absurd (kz_0) hz) (fun _ => ?_)
                    refine ax_iload_n (pc' := 95) rfl dX7_fewest_94 rfl ?_
                    refine ax_goto (tgt := 100) dX7_fewest_95 (by decide) ?_
                    exact ax_iret dX7_fewest_100 rfl (Nat.le_of_ble_eq_true rfl) (Nat.le_of_ble_eq_true rfl) (⟨by simp [o_fewest, e1, e2, ← hN, hfew, hbi], hx', hF0⟩)
                  · refine ax_if_ne (pc' := 94) (tgt := 98) dX7_fewest_91 (by decide) rfl (fun _ => ?_) (fun hz => absurd hz (kz_1))
                    refine ax_iload (pc' := 100) rfl dX7_fewest_98 rfl ?_
                    exact ax_iret dX7_fewest_100 rfl (Nat.le_of_ble_eq_true rfl) (Nat.le_of_ble_eq_true rfl) (⟨by simp [o_fewest, e1, e2, ← hN, hfew], hx', hF0⟩)
                · refine ax_if_eq (pc' := 90) (tgt := 101) dX7_fewest_87 (by decide) rfl (fun _ => ?_) (fun hz => absurd (by rw [show sp_near S.2.1.1 e (sp_mean (sp_sel S.2.1 S.2.2.1.1 s 0) S.2.2.1.1.length) = false from (Bool.eq_false_iff.mpr hp : sp_nr S e s = false)]; exact kz_0) hz)
                  exact NX (fun h => hp h.2.2)
              · refine ax_icmp_ne (pc' := 69) (tgt := 101) dX7_fewest_66 (by decide) rfl (fun _ => ?_) (fun hz => absurd hz (fun h => hbi ((nI_eq (by omega) (by omega)).mp h)))
                exact NX (fun h => hbi h.2.1)
          exact K2 (N - 1) 1 (by omega) (by omega) (by simp [sp_fs])
      exact K 4 1 none (by decide) (by decide) (fun j j1 j2 => by omega)
    · refine ax_callSR (pc' := 16) ls_X7_97 (c_withinF hu) rfl rfl (Nat.le_of_ble_eq_true rfl) (Nat.le_of_ble_eq_true rfl) dX7_fewest_13 rfl ?_
      refine ax_if_ne (pc' := 19) (tgt := 21) dX7_fewest_16 (by decide) rfl (fun hz => absurd (kz_0) hz) (fun _ => ?_)
      exact NO _ (by simp [o_fewest, e1, e2])
  · refine ax_callSR (pc' := 7) ls_X7_97 (c_withinF hv) rfl rfl (Nat.le_of_ble_eq_true rfl) (Nat.le_of_ble_eq_true rfl) dX7_fewest_4 rfl ?_
    refine ax_if_eq (pc' := 10) (tgt := 19) dX7_fewest_7 (by decide) rfl (fun _ => ?_) (fun hz => absurd (kz_0) hz)
    exact NO _ (by simp [o_fewest, e1])
theorem sp_cn_le {b : sp_B} {q : sp_rep} {off k : Nat} : sp_cn b q off k ≤ off := by
  induction k with
  | zero => exact Nat.le_refl _
  | succ k ih =>
    simp only [sp_cn]
    split
    · split
      · exact ih
      · exact Nat.le_trans (Nat.min_le_left _ _) ih
    · exact ih
theorem sp_gw_le {b : sp_B} {q : sp_rep} {er g : Nat} (hb : sp_ok b) (hq : q.2.2.2 ≤ 13300) (h : sp_gw b q er = some g) : g ≤ 4309200 := sp_go_le (sp_sw_le hb hq) (hb.2.2.2.2.2 q.1).2.2.2.2 h
theorem x_cancel (hx : xs_At σ.1 S) (hS : sp_Ok S) (v u : Int32) : ax_N mX7_cancel 8 0 0 [.ref 0, .int v, .int u] σ (xs_Po σ (o_cancel S v u)) := by
  have hx0 := hx
  obtain ⟨pb, pq, ts, hpp, hX, hPa, hRd, hK, -⟩ := hx
  have X_o := hX.1
  obtain ⟨-, ⟨fr, hB, hrd⟩, hb, hp⟩ := id hX
  have B_o : σ.1 pb = _ := hB.choose_spec.choose_spec.choose_spec.choose_spec.choose_spec.choose_spec.1
  have hk := hS.2.2.2.1
  have h9 := hk.1
  have hg3960 := hb.1.2
  have K_o : σ.1 5 = _ := hK.choose_spec.choose_spec.choose_spec.choose_spec.1
  refine ax_N.of (ls := [some (.ref 0), some (.int v), some (.int u), none, none, none, none, none, none]) (by decide +kernel) rfl (Nat.le_of_ble_eq_true rfl) ?_
  have NO : ∀ zz, o_cancel S v u = (-1, S) → ax_J (mX7_cancel, 8, 0, 0) 0 0 20 zz [] σ (xs_Po σ (o_cancel S v u)) := by
    intro zz ho
    rw [ho]
    refine ax_iconst (pc' := 21) (v := (-1)) kc_m1 dX7_cancel_20 rfl ?_
    exact ax_iret dX7_cancel_21 rfl (Nat.le_of_ble_eq_true rfl) (Nat.le_of_ble_eq_true rfl) (⟨rfl, hx0, ax_fr.rf⟩)
  refine ax_aload_n (pc' := 1) rfl dX7_cancel_0 rfl ?_
  refine ax_getf (pc' := 4) fl_X7_26 X_o rfl dX7_cancel_1 rfl ?_
  refine ax_iload_n (pc' := 5) rfl dX7_cancel_4 rfl ?_
  rcases sp_ix_cases v (n := S.2.2.1.1.length) (by omega) with ⟨r, hr, rfl, e1⟩ | ⟨hv, e1⟩
  · refine ax_callVR (pc' := 8) lv_X7_154 (c_hasT hK h9 hr) K_o rfl rfl (Nat.le_of_ble_eq_true rfl) (Nat.le_of_ble_eq_true rfl) dX7_cancel_5 rfl ?_
    refine ax_if_eq (pc' := 11) (tgt := 20) dX7_cancel_8 (by decide) rfl (fun hz => absurd hz (kz_1)) (fun _ => ?_)
    refine ax_iload_n (pc' := 12) rfl dX7_cancel_11 rfl ?_
    refine ax_iconst (pc' := 13) (v := (nI 0)) kc_0 dX7_cancel_12 rfl ?_
    refine ax_iconst (pc' := 14) (v := (nI 1)) kc_1 dX7_cancel_13 rfl ?_
    rcases sp_in_cases u (lo := 0) (hi := 1) (by decide) (by decide) with ⟨t, t1, t2, rfl, e2⟩ | ⟨hu, e2⟩
    · obtain ⟨-, -, -, hq⟩ := hk.2 r hr
      refine ax_callSR (pc' := 17) ls_X7_97 (c_withinT (nI_le t1 (by omega)) (nI_le t2 (by decide))) rfl rfl (Nat.le_of_ble_eq_true rfl) (Nat.le_of_ble_eq_true rfl) dX7_cancel_14 rfl ?_
      refine ax_if_ne (pc' := 20) (tgt := 22) dX7_cancel_17 (by decide) rfl (fun _ => ?_) (fun hz => absurd hz (kz_1))
      refine ax_aload_n (pc' := 23) rfl dX7_cancel_22 rfl ?_
      refine ax_iload_n (pc' := 24) rfl dX7_cancel_23 rfl ?_
      refine ax_callVR (pc' := 27) lv_X7_169 (c_girthBy hX hK hk hr) X_o rfl rfl (Nat.le_of_ble_eq_true rfl) (Nat.le_of_ble_eq_true rfl) dX7_cancel_24 rfl ?_
      refine ax_istore_n (pc' := 28) rfl (Nat.le_of_ble_eq_true rfl) dX7_cancel_27 rfl ?_
      refine ax_iload_n (pc' := 29) rfl dX7_cancel_28 rfl ?_
      refine ax_bipush (pc' := 31) (v := (-4)) kb_m4 dX7_cancel_29 rfl ?_
      obtain ⟨q, hqq⟩ : ∃ q, q = sp_at S.2.2.1.1 r := ⟨_, rfl⟩
      rw [← hqq] at hq ⊢
      cases hgb : sp_gb S.2.1 q with
      | none =>
        refine ax_icmp_ne (pc' := 34) (tgt := 37) dX7_cancel_31 (by decide) rfl (fun hz => absurd (rfl) hz) (fun _ => ?_)
        refine ax_bipush (pc' := 36) (v := (-4)) kb_m4 dX7_cancel_34 rfl ?_
        exact ax_iret dX7_cancel_36 rfl (Nat.le_of_ble_eq_true rfl) (Nat.le_of_ble_eq_true rfl) (⟨by simp [o_cancel, e1, e2, ← hqq, hgb], hx0, ax_fr.rf⟩)
      | some g =>
        have hgl := sp_gb_le hb hq hgb
        refine ax_icmp_ne (pc' := 34) (tgt := 37) dX7_cancel_31 (by decide) rfl (fun _ => ?_) (fun hz => absurd hz (nI_ne4 (by omega)))
        refine ax_aload_n (pc' := 38) rfl dX7_cancel_37 rfl ?_
        refine ax_getf (pc' := 41) fl_X7_63 X_o rfl dX7_cancel_38 rfl ?_
        refine ax_iload_n (pc' := 42) rfl dX7_cancel_41 rfl ?_
        refine ax_callVR (pc' := 45) lv_X7_234 (c_offGirth hB hb (m := g) (by omega)) B_o rfl rfl (Nat.le_of_ble_eq_true rfl) (Nat.le_of_ble_eq_true rfl) dX7_cancel_42 rfl ?_
        obtain ⟨off, hoff⟩ : ∃ off, off = sp_far g S.2.1.1 := ⟨_, rfl⟩
        rw [← hoff]
        have hofl : off ≤ 5000000 := by rw [hoff]; exact sp_far_le (by omega) (by omega)
        refine ax_istore (pc' := 47) rfl (Nat.le_of_ble_eq_true rfl) dX7_cancel_45 rfl ?_
        refine ax_iload (pc' := 49) rfl dX7_cancel_47 rfl ?_
        refine ax_istore (pc' := 51) rfl (Nat.le_of_ble_eq_true rfl) dX7_cancel_49 rfl ?_
        refine ax_iconst (pc' := 52) (v := (nI 0)) kc_0 dX7_cancel_51 rfl ?_
        refine ax_istore (pc' := 54) rfl (Nat.le_of_ble_eq_true rfl) dX7_cancel_52 rfl ?_
        refine ax_iconst (pc' := 55) (v := (nI 1)) kc_1 dX7_cancel_54 rfl ?_
        refine ax_istore (pc' := 57) rfl (Nat.le_of_ble_eq_true rfl) dX7_cancel_55 rfl ?_
        have K : ∀ m i (z : Option Value), i + m = 8 → 1 ≤ i → ax_J (mX7_cancel, 8, 0, 0) 0 0 57 [some (.ref 0), some (.int (nI r)), some (.int (nI t)), some (.int (nI g)), some (.int (nI off)), some (.int (nI (sp_cn S.2.1 q off i))), some (.int (nI (sp_set (sp_cb S.2.1 q off) 1 i))), some (.int (nI i)), z] [] σ (xs_Po σ (o_cancel S (nI r) (nI t))) := by
          intro m
          induction m with
          | zero =>
            intro i z hi h1
            have hi : i = 8 := hi
            subst hi
            refine ax_iload (pc' := 59) rfl dX7_cancel_57 rfl ?_
            refine ax_bipush (pc' := 61) (v := (nI 8)) kb_8 dX7_cancel_59 rfl ?_
            refine ax_icmp_ge (pc' := 64) (tgt := 125) dX7_cancel_61 (by decide) rfl (fun _ => ?_) (fun hz => absurd ((by decide)) hz)
            refine ax_iload_n (pc' := 126) rfl dX7_cancel_125 rfl ?_
            obtain rfl | rfl : t = 0 ∨ t = 1 := by omega
            · refine ax_if_ne (pc' := 129) (tgt := 134) dX7_cancel_126 (by decide) rfl (fun hz => absurd (kz_0) hz) (fun _ => ?_)
              refine ax_iload (pc' := 131) rfl dX7_cancel_129 rfl ?_
              refine ax_goto (tgt := 136) dX7_cancel_131 (by decide) ?_
              exact ax_iret dX7_cancel_136 rfl (Nat.le_of_ble_eq_true rfl) (Nat.le_of_ble_eq_true rfl) (⟨by simp [o_cancel, e1, e2, ← hqq, hgb, hoff], hx0, ax_fr.rf⟩)
            · refine ax_if_ne (pc' := 129) (tgt := 134) dX7_cancel_126 (by decide) rfl (fun _ => ?_) (fun hz => absurd hz (kz_1))
              refine ax_iload (pc' := 136) rfl dX7_cancel_134 rfl ?_
              exact ax_iret dX7_cancel_136 rfl (Nat.le_of_ble_eq_true rfl) (Nat.le_of_ble_eq_true rfl) (⟨by simp [o_cancel, e1, e2, ← hqq, hgb, hoff], hx0, ax_fr.rf⟩)
          | succ m ih =>
            intro i z hi h1
            refine ax_iload (pc' := 59) rfl dX7_cancel_57 rfl ?_
            refine ax_bipush (pc' := 61) (v := (nI 8)) kb_8 dX7_cancel_59 rfl ?_
            refine ax_icmp_ge (pc' := 64) (tgt := 125) dX7_cancel_61 (by decide) rfl (fun hz => absurd hz (nI_ge (by omega) (by decide))) (fun _ => ?_)
            refine ax_aload_n (pc' := 65) rfl dX7_cancel_64 rfl ?_
            refine ax_iload_n (pc' := 66) rfl dX7_cancel_65 rfl ?_
            refine ax_iload (pc' := 68) rfl dX7_cancel_66 rfl ?_
            refine ax_callVR (pc' := 71) lv_X7_237 (c_girthWithout hX hK hk hr (er := i) (by omega)) X_o rfl rfl (Nat.le_of_ble_eq_true rfl) (Nat.le_of_ble_eq_true rfl) dX7_cancel_68 rfl ?_
            rw [← hqq]
            refine ax_istore (pc' := 73) rfl (Nat.le_of_ble_eq_true rfl) dX7_cancel_71 rfl ?_
            refine ax_iload (pc' := 75) rfl dX7_cancel_73 rfl ?_
            refine ax_bipush (pc' := 77) (v := (-4)) kb_m4 dX7_cancel_75 rfl ?_
            have NX : ∀ x8 : Int32, sp_cn S.2.1 q off (i + 1) = sp_cn S.2.1 q off i → sp_cb S.2.1 q off i = false → ax_J (mX7_cancel, 8, 0, 0) 0 0 119 [some (.ref 0), some (.int (nI r)), some (.int (nI t)), some (.int (nI g)), some (.int (nI off)), some (.int (nI (sp_cn S.2.1 q off i))), some (.int (nI (sp_set (sp_cb S.2.1 q off) 1 i))), some (.int (nI i)), some (.int x8)] [] σ (xs_Po σ (o_cancel S (nI r) (nI t))) := by
              intro x8 hc1 hc2
              refine ax_iinc1 (pc' := 122) rfl rfl (Nat.le_of_ble_eq_true rfl) dX7_cancel_119 rfl ?_
              refine ax_goto (tgt := 57) dX7_cancel_122 (by decide) ?_
              have := ih (i + 1) (some (.int x8)) (by omega) (by omega)
              simp only [hc1, sp_set, hc2, and_false, if_false, Nat.add_zero, Bool.false_eq_true] at this
              exact this
            cases hgw : sp_gw S.2.1 q i with
            | none =>
              refine ax_icmp_eq (pc' := 80) (tgt := 119) dX7_cancel_77 (by decide) rfl (fun _ => ?_) (fun hz => absurd (rfl) hz)
              exact NX _ (by simp only [sp_cn, h1, if_true, hgw]) (by simp only [sp_cb, hgw])
            | some g2 =>
              have hg2 := sp_gw_le hb hq hgw
              refine ax_icmp_eq (pc' := 80) (tgt := 119) dX7_cancel_77 (by decide) rfl (fun hz => absurd hz (nI_ne4 (by omega))) (fun _ => ?_)
              refine ax_aload_n (pc' := 81) rfl dX7_cancel_80 rfl ?_
              refine ax_getf (pc' := 84) fl_X7_63 X_o rfl dX7_cancel_81 rfl ?_
              refine ax_iload (pc' := 86) rfl dX7_cancel_84 rfl ?_
              refine ax_callVR (pc' := 89) lv_X7_234 (c_offGirth hB hb (m := g2) (by omega)) B_o rfl rfl (Nat.le_of_ble_eq_true rfl) (Nat.le_of_ble_eq_true rfl) dX7_cancel_86 rfl ?_
              have hf2 : sp_far g2 S.2.1.1 ≤ 5000000 := sp_far_le (by omega) (by omega)
              have hcl := sp_cn_le (b := S.2.1) (q := q) (off := off) (k := i)
              refine ax_iload (pc' := 91) rfl dX7_cancel_89 rfl ?_
              by_cases hlt : sp_far g2 S.2.1.1 < off
              · refine ax_icmp_ge (pc' := 94) (tgt := 119) dX7_cancel_91 (by decide) rfl (fun hz => absurd hz (nI_ge hlt (by omega))) (fun _ => ?_)
                refine ax_iload (pc' := 96) rfl dX7_cancel_94 rfl ?_
                refine ax_iconst (pc' := 97) (v := (nI 1)) kc_1 dX7_cancel_96 rfl ?_
                refine ax_iload (pc' := 99) rfl dX7_cancel_97 rfl ?_
                refine ax_ishl (pc' := 100) dX7_cancel_99 rfl ?_
                refine ax_ior (pc' := 101) dX7_cancel_100 rfl ?_
                refine ax_topi (v' := nI (sp_set (sp_cb S.2.1 q off) 1 (i + 1))) (by rw [sp_or_ok i (by omega) _ (sp_set_lt _ 1 i)]; simp [sp_set, h1, sp_cb, hgw, hlt]) ?_
                refine ax_istore (pc' := 103) rfl (Nat.le_of_ble_eq_true rfl) dX7_cancel_101 rfl ?_
                refine ax_iload (pc' := 105) rfl dX7_cancel_103 rfl ?_
                refine ax_aload_n (pc' := 106) rfl dX7_cancel_105 rfl ?_
                refine ax_getf (pc' := 109) fl_X7_63 X_o rfl dX7_cancel_106 rfl ?_
                refine ax_iload (pc' := 111) rfl dX7_cancel_109 rfl ?_
                refine ax_callVR (pc' := 114) lv_X7_234 (c_offGirth hB hb (m := g2) (by omega)) B_o rfl rfl (Nat.le_of_ble_eq_true rfl) (Nat.le_of_ble_eq_true rfl) dX7_cancel_111 rfl ?_
                refine ax_callSR (pc' := 117) ls_X7_213 (c_min (a := sp_cn S.2.1 q off i) (b := sp_far g2 S.2.1.1) (by omega) (by omega)) rfl rfl (Nat.le_of_ble_eq_true rfl) (Nat.le_of_ble_eq_true rfl) dX7_cancel_114 rfl ?_
                refine ax_istore (pc' := 119) rfl (Nat.le_of_ble_eq_true rfl) dX7_cancel_117 rfl ?_
                refine ax_iinc1 (pc' := 122) rfl rfl (Nat.le_of_ble_eq_true rfl) dX7_cancel_119 rfl ?_
                refine ax_goto (tgt := 57) dX7_cancel_122 (by decide) ?_
                have := ih (i + 1) (some (.int (nI g2))) (by omega) (by omega)
                simp only [sp_cn, h1, if_true, hgw] at this
                exact this
              · refine ax_icmp_ge (pc' := 94) (tgt := 119) dX7_cancel_91 (by decide) rfl (fun _ => ?_) (fun hz => absurd (nI_le (by omega) (by omega)) hz)
                exact NX _ (by simp only [sp_cn, h1, if_true, hgw]; exact Nat.min_eq_left (by omega)) (by simp [sp_cb, hgw, hlt])
        exact K 7 1 none (by decide) (by decide)
    · refine ax_callSR (pc' := 17) ls_X7_97 (c_withinF hu) rfl rfl (Nat.le_of_ble_eq_true rfl) (Nat.le_of_ble_eq_true rfl) dX7_cancel_14 rfl ?_
      refine ax_if_ne (pc' := 20) (tgt := 22) dX7_cancel_17 (by decide) rfl (fun hz => absurd (kz_0) hz) (fun _ => ?_)
      exact NO _ (by simp [o_cancel, e1, e2])
  · refine ax_callVR (pc' := 8) lv_X7_154 (c_hasF hK h9 hv) K_o rfl rfl (Nat.le_of_ble_eq_true rfl) (Nat.le_of_ble_eq_true rfl) dX7_cancel_5 rfl ?_
    refine ax_if_eq (pc' := 11) (tgt := 20) dX7_cancel_8 (by decide) rfl (fun _ => ?_) (fun hz => absurd (kz_0) hz)
    exact NO _ (by simp [o_cancel, e1])
theorem x_sail (hx : xs_At σ.1 S) (hS : sp_Ok S) (v u : Int32) : ax_N mX7_sail 8 0 0 [.ref 0, .int v, .int u] σ (xs_Po σ (o_sail S v u)) := by
  have hx0 := hx
  obtain ⟨pb, pq, ts, hpp, hX, hPa, hRd, hK, hY, hK1, hK2, hT, hto, hSg, hG, hQ⟩ := hx
  have X_o := hX.1
  obtain ⟨-, ⟨fr, hB, hrd⟩, hb, hp⟩ := id hX
  have B_o : σ.1 pb = _ := hB.choose_spec.choose_spec.choose_spec.choose_spec.choose_spec.choose_spec.1
  have hg := hb.1.2
  refine ax_N.of (ls := [some (.ref 0), some (.int v), some (.int u), none, none]) (by decide +kernel) rfl (Nat.le_of_ble_eq_true rfl) ?_
  have NO : ∀ zz, o_sail S v u = (-1, S) → ax_J (mX7_sail, 8, 0, 0) 0 0 21 zz [] σ (xs_Po σ (o_sail S v u)) := by
    intro zz ho
    rw [ho]
    refine ax_iconst (pc' := 22) (v := (-1)) kc_m1 dX7_sail_21 rfl ?_
    exact ax_iret dX7_sail_22 rfl (Nat.le_of_ble_eq_true rfl) (Nat.le_of_ble_eq_true rfl) (⟨rfl, hx0, ax_fr.rf⟩)
  refine ax_iload_n (pc' := 1) rfl dX7_sail_0 rfl ?_
  refine ax_iconst (pc' := 2) (v := (nI 1)) kc_1 dX7_sail_1 rfl ?_
  refine ax_sipush (pc' := 5) (v := (nI 360)) ks_360 dX7_sail_2 rfl ?_
  rcases sp_in_cases v (lo := 1) (hi := 360) (by decide) (by decide) with ⟨l, l1, l2, rfl, e1⟩ | ⟨hv, e1⟩
  · refine ax_callSR (pc' := 8) ls_X7_97 (c_withinT (nI_le l1 (by omega)) (nI_le l2 (by decide))) rfl rfl (Nat.le_of_ble_eq_true rfl) (Nat.le_of_ble_eq_true rfl) dX7_sail_5 rfl ?_
    refine ax_if_eq (pc' := 11) (tgt := 21) dX7_sail_8 (by decide) rfl (fun hz => absurd hz (kz_1)) (fun _ => ?_)
    refine ax_iload_n (pc' := 12) rfl dX7_sail_11 rfl ?_
    refine ax_iconst (pc' := 13) (v := (nI 1)) kc_1 dX7_sail_12 rfl ?_
    refine ax_bipush (pc' := 15) (v := (nI 99)) kb_99 dX7_sail_13 rfl ?_
    rcases sp_in_cases u (lo := 1) (hi := 99) (by decide) (by decide) with ⟨d, t1, t2, rfl, e2⟩ | ⟨hu, e2⟩
    · refine ax_callSR (pc' := 18) ls_X7_97 (c_withinT (nI_le t1 (by omega)) (nI_le t2 (by decide))) rfl rfl (Nat.le_of_ble_eq_true rfl) (Nat.le_of_ble_eq_true rfl) dX7_sail_15 rfl ?_
      refine ax_if_ne (pc' := 21) (tgt := 23) dX7_sail_18 (by decide) rfl (fun _ => ?_) (fun hz => absurd hz (kz_1))
      refine ax_aload_n (pc' := 24) rfl dX7_sail_23 rfl ?_
      refine ax_aload_n (pc' := 25) rfl dX7_sail_24 rfl ?_
      refine ax_getf (pc' := 28) fl_X7_26 X_o rfl dX7_sail_25 rfl ?_
      refine ax_callVG (pc' := 31) lv_X7_204 (c_meanBy hX hG hK hS.2.2.2.1 (by omega)) X_o rfl rfl (Nat.le_of_ble_eq_true rfl) (Nat.le_of_ble_eq_true rfl) dX7_sail_28 rfl (fun r σ' hr => ?_)
      obtain ⟨rfl, hG2, hF⟩ := hr
      have hx' : xs_At σ'.1 S := ⟨pb, pq, ts, hpp, hX.on (hF.2 0 (by omega)) (fun z _ _ => hF.2 z (by omega)), hPa.on (fun z _ _ => hF.2 z (by omega)), hRd.on (fun z _ _ => hF.2 z (by omega)), hK.on (fun z _ _ => hF.2 z (by omega)), hY.on (fun z _ _ => hF.2 z (by omega)), hK1.on (fun z _ _ => hF.2 z (by omega)), hK2.on (fun z _ _ => hF.2 z (by omega)), hT.on (fun z _ _ => hF.2 z (by omega)), hto, hSg.on (fun z _ _ => hF.2 z (by omega)), hG2.any, hQ.on (fun z _ _ => hF.2 z (by omega))⟩
      have hF0 : ax_fr 0 56 σ σ' := ax_fr.rf.tr hF (by omega) (by omega)
      have X_o := hF.at X_o (by omega)
      have B_o := hF.at B_o (by omega)
      refine ax_istore_n (pc' := 32) rfl (Nat.le_of_ble_eq_true rfl) dX7_sail_31 rfl ?_
      refine ax_iload_n (pc' := 33) rfl dX7_sail_32 rfl ?_
      refine ax_bipush (pc' := 35) (v := (-4)) kb_m4 dX7_sail_33 rfl ?_
      cases hm : sp_mn S with
      | none =>
        refine ax_icmp_ne (pc' := 38) (tgt := 41) dX7_sail_35 (by decide) rfl (fun hz => absurd (by rw [show sp_mean (sp_sel S.2.1 S.2.2.1.1 511 0) S.2.2.1.1.length = none from hm]; rfl) hz) (fun _ => ?_)
        refine ax_bipush (pc' := 40) (v := (-4)) kb_m4 dX7_sail_38 rfl ?_
        exact ax_iret dX7_sail_40 rfl (Nat.le_of_ble_eq_true rfl) (Nat.le_of_ble_eq_true rfl) (⟨by simp [o_sail, e1, e2, hm], hx', hF0⟩)
      | some m =>
        have hml := sp_mn_le hS hm
        rw [show sp_mean (sp_sel S.2.1 S.2.2.1.1 511 0) S.2.2.1.1.length = some m from hm]
        refine ax_icmp_ne (pc' := 38) (tgt := 41) dX7_sail_35 (by decide) rfl (fun _ => ?_) (fun hz => absurd hz (nI_ne4 (by omega)))
        have hp1 : m * l ≤ 4309200 * 360 := Nat.mul_le_mul hml l2
        have hp2 : S.2.1.1 * l ≤ 3960 * 360 := Nat.mul_le_mul hg l2
        refine ax_bipush (pc' := 43) (v := (nI 100)) kb_100 dX7_sail_41 rfl ?_
        refine ax_iload_n (pc' := 44) rfl dX7_sail_43 rfl ?_
        refine ax_imul (pc' := 45) dX7_sail_44 rfl ?_
        refine ax_topi (pk_mul 100 d) ?_
        refine ax_istore (pc' := 47) rfl (Nat.le_of_ble_eq_true rfl) dX7_sail_45 rfl ?_
        refine ax_iload_n (pc' := 48) rfl dX7_sail_47 rfl ?_
        refine ax_i2l (pc' := 49) dX7_sail_48 rfl ?_
        refine ax_topl (nI_l (by omega)) ?_
        refine ax_iload_n (pc' := 50) rfl dX7_sail_49 rfl ?_
        refine ax_i2l (pc' := 51) dX7_sail_50 rfl ?_
        refine ax_topl (nI_l (by omega)) ?_
        refine ax_lmul (pc' := 52) dX7_sail_51 rfl ?_
        refine ax_topl (lN_mul m l) ?_
        refine ax_sipush (pc' := 55) (v := (nI 360)) ks_360 dX7_sail_52 rfl ?_
        refine ax_callSR (pc' := 58) ls_X7_240 (c_cut (a := m * l) (d := 360) (by omega) (by decide) (by decide)) rfl rfl (Nat.le_of_ble_eq_true rfl) (Nat.le_of_ble_eq_true rfl) dX7_sail_55 rfl ?_
        refine ax_iload (pc' := 60) rfl dX7_sail_58 rfl ?_
        by_cases hd1 : 100 * d < m * l / 360
        · refine ax_icmp_le (pc' := 63) (tgt := 65) dX7_sail_60 (by decide) rfl (fun hz => absurd hz (nI_ge hd1 (by omega))) (fun _ => ?_)
          refine ax_iconst (pc' := 64) (v := (nI 0)) kc_0 dX7_sail_63 rfl ?_
          exact ax_iret dX7_sail_64 rfl (Nat.le_of_ble_eq_true rfl) (Nat.le_of_ble_eq_true rfl) (⟨by simp [o_sail, e1, e2, hm, hd1], hx', hF0⟩)
        · refine ax_icmp_le (pc' := 63) (tgt := 65) dX7_sail_60 (by decide) rfl (fun _ => ?_) (fun hz => absurd (nI_le (by omega) (by omega)) hz)
          refine ax_aload_n (pc' := 66) rfl dX7_sail_65 rfl ?_
          refine ax_getf (pc' := 69) fl_X7_63 X_o rfl dX7_sail_66 rfl ?_
          refine ax_getf (pc' := 72) fl_X7_244 B_o rfl dX7_sail_69 rfl ?_
          refine ax_i2l (pc' := 73) dX7_sail_72 rfl ?_
          refine ax_topl (nI_l (by omega)) ?_
          refine ax_iload_n (pc' := 74) rfl dX7_sail_73 rfl ?_
          refine ax_i2l (pc' := 75) dX7_sail_74 rfl ?_
          refine ax_topl (nI_l (by omega)) ?_
          refine ax_lmul (pc' := 76) dX7_sail_75 rfl ?_
          refine ax_topl (lN_mul _ l) ?_
          refine ax_sipush (pc' := 79) (v := (nI 360)) ks_360 dX7_sail_76 rfl ?_
          refine ax_callSR (pc' := 82) ls_X7_240 (c_cut (a := S.2.1.1 * l) (d := 360) (by omega) (by decide) (by decide)) rfl rfl (Nat.le_of_ble_eq_true rfl) (Nat.le_of_ble_eq_true rfl) dX7_sail_79 rfl ?_
          refine ax_iload (pc' := 84) rfl dX7_sail_82 rfl ?_
          by_cases hd2 : 100 * d < S.2.1.1 * l / 360
          · refine ax_icmp_le (pc' := 87) (tgt := 91) dX7_sail_84 (by decide) rfl (fun hz => absurd hz (nI_ge hd2 (by omega))) (fun _ => ?_)
            refine ax_iconst (pc' := 88) (v := (nI 1)) kc_1 dX7_sail_87 rfl ?_
            refine ax_goto (tgt := 92) dX7_sail_88 (by decide) ?_
            exact ax_iret dX7_sail_92 rfl (Nat.le_of_ble_eq_true rfl) (Nat.le_of_ble_eq_true rfl) (⟨by simp [o_sail, e1, e2, hm, hd1, hd2], hx', hF0⟩)
          · refine ax_icmp_le (pc' := 87) (tgt := 91) dX7_sail_84 (by decide) rfl (fun _ => ?_) (fun hz => absurd (nI_le (by omega) (by omega)) hz)
            refine ax_iconst (pc' := 92) (v := (nI 2)) kc_2 dX7_sail_91 rfl ?_
            exact ax_iret dX7_sail_92 rfl (Nat.le_of_ble_eq_true rfl) (Nat.le_of_ble_eq_true rfl) (⟨by simp [o_sail, e1, e2, hm, hd1, hd2], hx', hF0⟩)
    · refine ax_callSR (pc' := 18) ls_X7_97 (c_withinF hu) rfl rfl (Nat.le_of_ble_eq_true rfl) (Nat.le_of_ble_eq_true rfl) dX7_sail_15 rfl ?_
      refine ax_if_ne (pc' := 21) (tgt := 23) dX7_sail_18 (by decide) rfl (fun hz => absurd (kz_0) hz) (fun _ => ?_)
      exact NO _ (by simp [o_sail, e1, e2])
  · refine ax_callSR (pc' := 8) ls_X7_97 (c_withinF hv) rfl rfl (Nat.le_of_ble_eq_true rfl) (Nat.le_of_ble_eq_true rfl) dX7_sail_5 rfl ?_
    refine ax_if_eq (pc' := 11) (tgt := 21) dX7_sail_8 (by decide) rfl (fun _ => ?_) (fun hz => absurd (kz_0) hz)
    exact NO _ (by simp [o_sail, e1])
theorem x_see (hx : xs_At σ.1 S) (hS : sp_Ok S) (v u t n : Int32) : ax_N mX7_see 8 0 0 [.ref 0, .int v, .int u, .int t, .int n] σ (xs_Po σ (o_see S v u t n)) := by
  have hx0 := hx
  obtain ⟨pb, pq, ts, hpp, hX, hPa, hRd, hK, hY, hK1, hK2, hT, hto, hSg, hG, hQ⟩ := hx
  have X_o := hX.1
  obtain ⟨-, ⟨fr, hB, hrd⟩, hb, hp⟩ := id hX
  have B_o : σ.1 pb = _ := hB.choose_spec.choose_spec.choose_spec.choose_spec.choose_spec.choose_spec.1
  have S_o : σ.1 32 = _ := hSg.choose_spec.choose_spec.choose_spec.choose_spec.1
  have h6 := hb.2.1
  have h4 := hb.2.2.1
  have hs6 := hS.2.2.2.2.2.2.2.2.1
  refine ax_N.of (ls := [some (.ref 0), some (.int v), some (.int u), some (.int t), some (.int n)]) (by decide +kernel) rfl (Nat.le_of_ble_eq_true rfl) ?_
  have NO : ∀ zz, o_see S v u t n = (-1, S) → ax_J (mX7_see, 8, 0, 0) 0 0 35 zz [] σ (xs_Po σ (o_see S v u t n)) := by
    intro zz ho
    rw [ho]
    refine ax_iconst (pc' := 36) (v := (-1)) kc_m1 dX7_see_35 rfl ?_
    exact ax_iret dX7_see_36 rfl (Nat.le_of_ble_eq_true rfl) (Nat.le_of_ble_eq_true rfl) (⟨rfl, hx0, ax_fr.rf⟩)
  refine ax_aload_n (pc' := 1) rfl dX7_see_0 rfl ?_
  refine ax_getf (pc' := 4) fl_X7_63 X_o rfl dX7_see_1 rfl ?_
  refine ax_iload_n (pc' := 5) rfl dX7_see_4 rfl ?_
  rcases sp_ix_cases v (n := S.2.1.2.2.1) (by omega) with ⟨w, hw, rfl, e1⟩ | ⟨hv, e1⟩
  · refine ax_callVR (pc' := 8) lv_X7_142 (c_isWalkerT hB h4 hw) B_o rfl rfl (Nat.le_of_ble_eq_true rfl) (Nat.le_of_ble_eq_true rfl) dX7_see_5 rfl ?_
    refine ax_if_eq (pc' := 11) (tgt := 35) dX7_see_8 (by decide) rfl (fun hz => absurd hz (kz_1)) (fun _ => ?_)
    refine ax_aload_n (pc' := 12) rfl dX7_see_11 rfl ?_
    refine ax_getf (pc' := 15) fl_X7_63 X_o rfl dX7_see_12 rfl ?_
    refine ax_iload_n (pc' := 16) rfl dX7_see_15 rfl ?_
    refine ax_iload_n (pc' := 17) rfl dX7_see_16 rfl ?_
    rcases sp_two_cases u t (n := S.2.1.2.1) (by omega) with ⟨a, c, ha, hc, hac, rfl, rfl, e2⟩ | ⟨hv, e2⟩
    · refine ax_callVR (pc' := 20) lv_X7_128 (c_areTwoTownsT hB h6 ha hc hac) B_o rfl rfl (Nat.le_of_ble_eq_true rfl) (Nat.le_of_ble_eq_true rfl) dX7_see_17 rfl ?_
      refine ax_if_eq (pc' := 23) (tgt := 35) dX7_see_20 (by decide) rfl (fun hz => absurd hz (kz_1)) (fun _ => ?_)
      refine ax_iload (pc' := 25) rfl dX7_see_23 rfl ?_
      refine ax_iconst (pc' := 26) (v := (nI 0)) kc_0 dX7_see_25 rfl ?_
      refine ax_sipush (pc' := 29) (v := (nI 9999)) ks_9999 dX7_see_26 rfl ?_
      rcases sp_in_cases n (lo := 0) (hi := 9999) (by decide) (by decide) with ⟨m, m1, m2, rfl, e3⟩ | ⟨hn, e3⟩
      · refine ax_callSR (pc' := 32) ls_X7_97 (c_withinT (nI_le m1 (by omega)) (nI_le m2 (by decide))) rfl rfl (Nat.le_of_ble_eq_true rfl) (Nat.le_of_ble_eq_true rfl) dX7_see_29 rfl ?_
        refine ax_if_ne (pc' := 35) (tgt := 37) dX7_see_32 (by decide) rfl (fun _ => ?_) (fun hz => absurd hz (kz_1))
        refine ax_aload_n (pc' := 38) rfl dX7_see_37 rfl ?_
        refine ax_getf (pc' := 41) fl_X7_49 X_o rfl dX7_see_38 rfl ?_
        refine ax_getf (pc' := 44) fl_X7_247 S_o rfl dX7_see_41 rfl ?_
        refine ax_bipush (pc' := 46) (v := (nI 6)) kb_6 dX7_see_44 rfl ?_
        by_cases hl : S.2.2.2.2.2.length < 6
        · have ho : o_see S (nI w) (nI a) (nI c) (nI m) = (nI (S.2.2.2.2.2.length + 1), (S.1, S.2.1, S.2.2.1, S.2.2.2.1, S.2.2.2.2.1, S.2.2.2.2.2 ++ [(w, a, c, m)])) := by simp [o_see, e1, e2, e3, hl]
          rw [ho]
          refine ax_icmp_lt (pc' := 49) (tgt := 52) dX7_see_46 (by decide) rfl (fun _ => ?_) (fun hz => absurd (nI_lt hl (by decide)) hz)
          refine ax_aload_n (pc' := 53) rfl dX7_see_52 rfl ?_
          refine ax_getf (pc' := 56) fl_X7_49 X_o rfl dX7_see_53 rfl ?_
          refine ax_iload_n (pc' := 57) rfl dX7_see_56 rfl ?_
          refine ax_iload_n (pc' := 58) rfl dX7_see_57 rfl ?_
          refine ax_iload_n (pc' := 59) rfl dX7_see_58 rfl ?_
          refine ax_iload (pc' := 61) rfl dX7_see_59 rfl ?_
          refine ax_callVG (pc' := 64) lv_X7_248 (c_Sightings_add hSg hl) S_o rfl rfl (Nat.le_of_ble_eq_true rfl) (Nat.le_of_ble_eq_true rfl) dX7_see_61 rfl (fun r σ' hr => ?_)
          obtain ⟨rfl, hSg2, hF⟩ := hr
          have X_o := hF.at X_o (by omega)
          have S_o : σ'.1 32 = _ := hSg2.choose_spec.choose_spec.choose_spec.choose_spec.1
          refine ax_aload_n (pc' := 65) rfl dX7_see_64 rfl ?_
          refine ax_getf (pc' := 68) fl_X7_49 X_o rfl dX7_see_65 rfl ?_
          refine ax_getf (pc' := 71) fl_X7_247 S_o rfl dX7_see_68 rfl ?_
          exact ax_iret dX7_see_71 rfl (Nat.le_of_ble_eq_true rfl) (Nat.le_of_ble_eq_true rfl) (⟨by simp, ⟨pb, pq, ts, hpp, hX.on (hF.2 0 (by omega)) (fun z _ _ => hF.2 z (by omega)), hPa.on (fun z _ _ => hF.2 z (by omega)), hRd.on (fun z _ _ => hF.2 z (by omega)), hK.on (fun z _ _ => hF.2 z (by omega)), hY.on (fun z _ _ => hF.2 z (by omega)), hK1.on (fun z _ _ => hF.2 z (by omega)), hK2.on (fun z _ _ => hF.2 z (by omega)), hT.on (fun z _ _ => hF.2 z (by omega)), hto, hSg2, hG.on (fun z _ _ => hF.2 z (by omega)), hQ.on (fun z _ _ => hF.2 z (by omega))⟩, ax_fr.rf.tr hF (by omega) (by omega)⟩)
        · have ho : o_see S (nI w) (nI a) (nI c) (nI m) = (-3, S) := by simp [o_see, e1, e2, e3, hl]
          rw [ho]
          refine ax_icmp_lt (pc' := 49) (tgt := 52) dX7_see_46 (by decide) rfl (fun hz => absurd hz (nI_nlt (by omega) (by omega))) (fun _ => ?_)
          refine ax_bipush (pc' := 51) (v := (-3)) kb_m3 dX7_see_49 rfl ?_
          exact ax_iret dX7_see_51 rfl (Nat.le_of_ble_eq_true rfl) (Nat.le_of_ble_eq_true rfl) (⟨rfl, hx0, ax_fr.rf⟩)
      · refine ax_callSR (pc' := 32) ls_X7_97 (c_withinF hn) rfl rfl (Nat.le_of_ble_eq_true rfl) (Nat.le_of_ble_eq_true rfl) dX7_see_29 rfl ?_
        refine ax_if_ne (pc' := 35) (tgt := 37) dX7_see_32 (by decide) rfl (fun hz => absurd (kz_0) hz) (fun _ => ?_)
        exact NO _ (by simp [o_see, e1, e2, e3])
    · refine ax_callVR (pc' := 20) lv_X7_128 (c_areTwoTownsF hB h6 hv) B_o rfl rfl (Nat.le_of_ble_eq_true rfl) (Nat.le_of_ble_eq_true rfl) dX7_see_17 rfl ?_
      refine ax_if_eq (pc' := 23) (tgt := 35) dX7_see_20 (by decide) rfl (fun _ => ?_) (fun hz => absurd (kz_0) hz)
      exact NO _ (by simp [o_see, e1, e2])
  · refine ax_callVR (pc' := 8) lv_X7_142 (c_isWalkerF hB h4 hv) B_o rfl rfl (Nat.le_of_ble_eq_true rfl) (Nat.le_of_ble_eq_true rfl) dX7_see_5 rfl ?_
    refine ax_if_eq (pc' := 11) (tgt := 35) dX7_see_8 (by decide) rfl (fun _ => ?_) (fun hz => absurd (kz_0) hz)
    exact NO _ (by simp [o_see, e1])
theorem x_forget (hx : xs_At σ.1 S) (hS : sp_Ok S) : ax_N mX7_forget 8 0 0 [.ref 0] σ (xs_Po σ (o_forget S)) := by
  obtain ⟨pb, pq, ts, hpp, hX, hPa, hRd, hK, hY, hK1, hK2, hT, hto, hSg, hG, hQ⟩ := hx
  have X_o := hX.1
  have hp := hX.2.2.2
  have S_o : σ.1 32 = _ := hSg.choose_spec.choose_spec.choose_spec.choose_spec.1
  refine ax_N.of (ls := [some (.ref 0), none]) (by decide +kernel) rfl (Nat.le_of_ble_eq_true rfl) ?_
  refine ax_aload_n (pc' := 1) rfl dX7_forget_0 rfl ?_
  refine ax_getf (pc' := 4) fl_X7_49 X_o rfl dX7_forget_1 rfl ?_
  refine ax_getf (pc' := 7) fl_X7_247 S_o rfl dX7_forget_4 rfl ?_
  refine ax_istore_n (pc' := 8) rfl (Nat.le_of_ble_eq_true rfl) dX7_forget_7 rfl ?_
  refine ax_aload_n (pc' := 9) rfl dX7_forget_8 rfl ?_
  refine ax_getf (pc' := 12) fl_X7_49 X_o rfl dX7_forget_9 rfl ?_
  refine ax_callVG (pc' := 15) lv_X7_111 (c_Sightings_clear hSg) S_o rfl rfl (Nat.le_of_ble_eq_true rfl) (Nat.le_of_ble_eq_true rfl) dX7_forget_12 rfl (fun r σ' hr => ?_)
  obtain ⟨rfl, hSg2, hF⟩ := hr
  refine ax_iload_n (pc' := 16) rfl dX7_forget_15 rfl ?_
  exact ax_iret dX7_forget_16 rfl (Nat.le_of_ble_eq_true rfl) (Nat.le_of_ble_eq_true rfl) (⟨rfl, ⟨pb, pq, ts, hpp, hX.on (hF.2 0 (by omega)) (fun z _ _ => hF.2 z (by omega)), hPa.on (fun z _ _ => hF.2 z (by omega)), hRd.on (fun z _ _ => hF.2 z (by omega)), hK.on (fun z _ _ => hF.2 z (by omega)), hY.on (fun z _ _ => hF.2 z (by omega)), hK1.on (fun z _ _ => hF.2 z (by omega)), hK2.on (fun z _ _ => hF.2 z (by omega)), hT.on (fun z _ _ => hF.2 z (by omega)), hto, hSg2, hG.on (fun z _ _ => hF.2 z (by omega)), hQ.on (fun z _ _ => hF.2 z (by omega))⟩, ax_fr.rf.tr hF (by omega) (by omega)⟩)
theorem x_fits (hx : xs_At σ.1 S) (hS : sp_Ok S) (v u : Int32) : ax_N mX7_fits 8 0 0 [.ref 0, .int v, .int u] σ (xs_Po σ (o_fits S v u)) := by
  have hx0 := hx
  obtain ⟨pb, pq, ts, hpp, hX, hPa, hRd, hK, hY, hK1, hK2, hT, hto, hSg, hG, hQ⟩ := hx
  have X_o := hX.1
  obtain ⟨-, ⟨fr, hB, hrd⟩, hb, hp⟩ := id hX
  have B_o : σ.1 pb = _ := hB.choose_spec.choose_spec.choose_spec.choose_spec.choose_spec.choose_spec.1
  have h4 := hb.2.2.1
  refine ax_N.of (ls := [some (.ref 0), some (.int v), some (.int u)]) (by decide +kernel) rfl (Nat.le_of_ble_eq_true rfl) ?_
  have NO : ∀ zz, o_fits S v u = (-1, S) → ax_J (mX7_fits, 8, 0, 0) 0 0 20 zz [] σ (xs_Po σ (o_fits S v u)) := by
    intro zz ho
    rw [ho]
    refine ax_iconst (pc' := 21) (v := (-1)) kc_m1 dX7_fits_20 rfl ?_
    exact ax_iret dX7_fits_21 rfl (Nat.le_of_ble_eq_true rfl) (Nat.le_of_ble_eq_true rfl) (⟨rfl, hx0, ax_fr.rf⟩)
  refine ax_aload_n (pc' := 1) rfl dX7_fits_0 rfl ?_
  refine ax_getf (pc' := 4) fl_X7_63 X_o rfl dX7_fits_1 rfl ?_
  refine ax_iload_n (pc' := 5) rfl dX7_fits_4 rfl ?_
  rcases sp_ix_cases v (n := S.2.1.2.2.1) (by omega) with ⟨w, hw, rfl, e1⟩ | ⟨hv, e1⟩
  · refine ax_callVR (pc' := 8) lv_X7_142 (c_isWalkerT hB h4 hw) B_o rfl rfl (Nat.le_of_ble_eq_true rfl) (Nat.le_of_ble_eq_true rfl) dX7_fits_5 rfl ?_
    refine ax_if_eq (pc' := 11) (tgt := 20) dX7_fits_8 (by decide) rfl (fun hz => absurd hz (kz_1)) (fun _ => ?_)
    refine ax_iload_n (pc' := 12) rfl dX7_fits_11 rfl ?_
    refine ax_iconst (pc' := 13) (v := (nI 0)) kc_0 dX7_fits_12 rfl ?_
    refine ax_iconst (pc' := 14) (v := (nI 1)) kc_1 dX7_fits_13 rfl ?_
    rcases sp_in_cases u (lo := 0) (hi := 1) (by decide) (by decide) with ⟨t, t1, t2, rfl, e2⟩ | ⟨hu, e2⟩
    · refine ax_callSR (pc' := 17) ls_X7_97 (c_withinT (nI_le t1 (by omega)) (nI_le t2 (by decide))) rfl rfl (Nat.le_of_ble_eq_true rfl) (Nat.le_of_ble_eq_true rfl) dX7_fits_14 rfl ?_
      refine ax_if_ne (pc' := 20) (tgt := 22) dX7_fits_17 (by decide) rfl (fun _ => ?_) (fun hz => absurd hz (kz_1))
      refine ax_iload_n (pc' := 23) rfl dX7_fits_22 rfl ?_
      obtain rfl | rfl : t = 0 ∨ t = 1 := by omega
      · refine ax_if_ne (pc' := 26) (tgt := 34) dX7_fits_23 (by decide) rfl (fun hz => absurd (kz_0) hz) (fun _ => ?_)
        refine ax_aload_n (pc' := 27) rfl dX7_fits_26 rfl ?_
        refine ax_iload_n (pc' := 28) rfl dX7_fits_27 rfl ?_
        refine ax_callVR (pc' := 31) lv_X7_252 (c_fittingUnits hX hK hS.2.2.2.1 hSg hS.2.2.2.2.2.2.2.2 hw) X_o rfl rfl (Nat.le_of_ble_eq_true rfl) (Nat.le_of_ble_eq_true rfl) dX7_fits_28 rfl ?_
        refine ax_goto (tgt := 39) dX7_fits_31 (by decide) ?_
        exact ax_iret dX7_fits_39 rfl (Nat.le_of_ble_eq_true rfl) (Nat.le_of_ble_eq_true rfl) (⟨by simp [o_fits, e1, e2], hx0, ax_fr.rf⟩)
      · refine ax_if_ne (pc' := 26) (tgt := 34) dX7_fits_23 (by decide) rfl (fun _ => ?_) (fun hz => absurd hz (kz_1))
        refine ax_aload_n (pc' := 35) rfl dX7_fits_34 rfl ?_
        refine ax_iload_n (pc' := 36) rfl dX7_fits_35 rfl ?_
        refine ax_callVR (pc' := 39) lv_X7_255 (c_fittingKinds hX hK hS.2.2.2.1 hSg hS.2.2.2.2.2.2.2.2 hw) X_o rfl rfl (Nat.le_of_ble_eq_true rfl) (Nat.le_of_ble_eq_true rfl) dX7_fits_36 rfl ?_
        exact ax_iret dX7_fits_39 rfl (Nat.le_of_ble_eq_true rfl) (Nat.le_of_ble_eq_true rfl) (⟨by simp [o_fits, e1, e2], hx0, ax_fr.rf⟩)
    · refine ax_callSR (pc' := 17) ls_X7_97 (c_withinF hu) rfl rfl (Nat.le_of_ble_eq_true rfl) (Nat.le_of_ble_eq_true rfl) dX7_fits_14 rfl ?_
      refine ax_if_ne (pc' := 20) (tgt := 22) dX7_fits_17 (by decide) rfl (fun hz => absurd (kz_0) hz) (fun _ => ?_)
      exact NO _ (by simp [o_fits, e1, e2])
  · refine ax_callVR (pc' := 8) lv_X7_142 (c_isWalkerF hB h4 hv) B_o rfl rfl (Nat.le_of_ble_eq_true rfl) (Nat.le_of_ble_eq_true rfl) dX7_fits_5 rfl ?_
    refine ax_if_eq (pc' := 11) (tgt := 20) dX7_fits_8 (by decide) rfl (fun _ => ?_) (fun hz => absurd (kz_0) hz)
    exact NO _ (by simp [o_fits, e1])
theorem x_towns (hx : xs_At σ.1 S) (hS : sp_Ok S) (v : Int32) : ax_N mX7_towns 8 0 0 [.ref 0, .int v] σ (xs_Po σ (o_towns S v)) := by
  have hx0 := hx
  obtain ⟨pb, pq, ts, hpp, hX, -⟩ := hx
  have X_o := hX.1
  obtain ⟨-, ⟨fr, hB, hrd⟩, hb, hp⟩ := id hX
  have B_o : σ.1 pb = _ := hB.choose_spec.choose_spec.choose_spec.choose_spec.choose_spec.choose_spec.1
  have h6 := hb.2.1
  refine ax_N.of (ls := [some (.ref 0), some (.int v), none, none]) (by decide +kernel) rfl (Nat.le_of_ble_eq_true rfl) ?_
  refine ax_iload_n (pc' := 1) rfl dX7_towns_0 rfl ?_
  refine ax_iconst (pc' := 2) (v := (nI 0)) kc_0 dX7_towns_1 rfl ?_
  refine ax_bipush (pc' := 4) (v := (nI 90)) kb_90 dX7_towns_2 rfl ?_
  rcases sp_in_cases v (lo := 0) (hi := 90) (by decide) (by decide) with ⟨s, s1, s2, rfl, e1⟩ | ⟨hv, e1⟩
  · refine ax_callSR (pc' := 7) ls_X7_97 (c_withinT (nI_le s1 (by omega)) (nI_le s2 (by decide))) rfl rfl (Nat.le_of_ble_eq_true rfl) (Nat.le_of_ble_eq_true rfl) dX7_towns_4 rfl ?_
    refine ax_if_ne (pc' := 10) (tgt := 12) dX7_towns_7 (by decide) rfl (fun _ => ?_) (fun hz => absurd hz (kz_1))
    refine ax_iconst (pc' := 13) (v := (nI 0)) kc_0 dX7_towns_12 rfl ?_
    refine ax_istore_n (pc' := 14) rfl (Nat.le_of_ble_eq_true rfl) dX7_towns_13 rfl ?_
    refine ax_iconst (pc' := 15) (v := (nI 0)) kc_0 dX7_towns_14 rfl ?_
    refine ax_istore_n (pc' := 16) rfl (Nat.le_of_ble_eq_true rfl) dX7_towns_15 rfl ?_
    obtain ⟨P, hP⟩ : ∃ P : Nat → Bool, P = (fun t => decide (sp_far (sp_sh S.2.1 t) s ≤ 1)) := ⟨_, rfl⟩
    have K : ∀ m i, i + m = S.2.1.2.1 → ax_J (mX7_towns, 8, 0, 0) 0 0 16 [some (.ref 0), some (.int (nI s)), some (.int (nI (sp_set P 0 i))), some (.int (nI i))] [] σ (xs_Po σ (o_towns S (nI s))) := by
      intro m
      induction m with
      | zero =>
        intro i hi
        have hi : i = S.2.1.2.1 := hi
        subst hi
        refine ax_iload_n (pc' := 17) rfl dX7_towns_16 rfl ?_
        refine ax_aload_n (pc' := 18) rfl dX7_towns_17 rfl ?_
        refine ax_getf (pc' := 21) fl_X7_63 X_o rfl dX7_towns_18 rfl ?_
        refine ax_getf (pc' := 24) fl_X7_103 B_o rfl dX7_towns_21 rfl ?_
        refine ax_icmp_ge (pc' := 27) (tgt := 56) dX7_towns_24 (by decide) rfl (fun _ => ?_) (fun hz => absurd (nI_le (Nat.le_refl _) (by omega)) hz)
        refine ax_iload_n (pc' := 57) rfl dX7_towns_56 rfl ?_
        exact ax_iret dX7_towns_57 rfl (Nat.le_of_ble_eq_true rfl) (Nat.le_of_ble_eq_true rfl) (⟨by simp [o_towns, e1, hP], hx0, ax_fr.rf⟩)
      | succ m ih =>
        intro i hi
        have hil : i < S.2.1.2.1 := by omega
        have hsh := sp_sh_le hb i
        refine ax_iload_n (pc' := 17) rfl dX7_towns_16 rfl ?_
        refine ax_aload_n (pc' := 18) rfl dX7_towns_17 rfl ?_
        refine ax_getf (pc' := 21) fl_X7_63 X_o rfl dX7_towns_18 rfl ?_
        refine ax_getf (pc' := 24) fl_X7_103 B_o rfl dX7_towns_21 rfl ?_
        refine ax_icmp_ge (pc' := 27) (tgt := 56) dX7_towns_24 (by decide) rfl (fun hz => absurd hz (nI_ge hil (by omega))) (fun _ => ?_)
        refine ax_aload_n (pc' := 28) rfl dX7_towns_27 rfl ?_
        refine ax_getf (pc' := 31) fl_X7_63 X_o rfl dX7_towns_28 rfl ?_
        refine ax_iload_n (pc' := 32) rfl dX7_towns_31 rfl ?_
        refine ax_callVR (pc' := 35) lv_X7_124 (c_shadow hB hb hil) B_o rfl rfl (Nat.le_of_ble_eq_true rfl) (Nat.le_of_ble_eq_true rfl) dX7_towns_32 rfl ?_
        refine ax_iload_n (pc' := 36) rfl dX7_towns_35 rfl ?_
        refine ax_isub (pc' := 37) dX7_towns_36 rfl ?_
        refine ax_callSR (pc' := 40) ls_X7_258 (c_abs (n := sp_far (sp_sh S.2.1 i) s) (Nat.lt_of_le_of_lt (sp_far_le (m := 90) (by omega) s2) (by decide)) (sp_sub (by omega) (by omega))) rfl rfl (Nat.le_of_ble_eq_true rfl) (Nat.le_of_ble_eq_true rfl) dX7_towns_37 rfl ?_
        refine ax_iconst (pc' := 41) (v := (nI 1)) kc_1 dX7_towns_40 rfl ?_
        have hfl : sp_far (sp_sh S.2.1 i) s ≤ 90 := sp_far_le (by omega) s2
        by_cases hc : sp_far (sp_sh S.2.1 i) s ≤ 1
        · refine ax_icmp_gt (pc' := 44) (tgt := 50) dX7_towns_41 (by decide) rfl (fun hz => absurd hz (nI_nlt (by omega) (by omega))) (fun _ => ?_)
          refine ax_iload_n (pc' := 45) rfl dX7_towns_44 rfl ?_
          refine ax_iconst (pc' := 46) (v := (nI 1)) kc_1 dX7_towns_45 rfl ?_
          refine ax_iload_n (pc' := 47) rfl dX7_towns_46 rfl ?_
          refine ax_ishl (pc' := 48) dX7_towns_47 rfl ?_
          refine ax_ior (pc' := 49) dX7_towns_48 rfl ?_
          refine ax_topi (v' := nI (sp_set P 0 (i + 1))) (by rw [sp_or_ok i (by omega) _ (sp_set_lt P 0 i)]; simp [sp_set, hP, hc]) ?_
          refine ax_istore_n (pc' := 50) rfl (Nat.le_of_ble_eq_true rfl) dX7_towns_49 rfl ?_
          refine ax_iinc1 (pc' := 53) rfl rfl (Nat.le_of_ble_eq_true rfl) dX7_towns_50 rfl ?_
          refine ax_goto (tgt := 16) dX7_towns_53 (by decide) ?_
          exact ih (i + 1) (by omega)
        · refine ax_icmp_gt (pc' := 44) (tgt := 50) dX7_towns_41 (by decide) rfl (fun _ => ?_) (fun hz => absurd (nI_lt (by omega) (by omega)) hz)
          refine ax_iinc1 (pc' := 53) rfl rfl (Nat.le_of_ble_eq_true rfl) dX7_towns_50 rfl ?_
          refine ax_goto (tgt := 16) dX7_towns_53 (by decide) ?_
          have := ih (i + 1) (by omega)
          rw [show sp_set P 0 (i + 1) = sp_set P 0 i by simp [sp_set, hP, hc]] at this
          exact this
    exact K S.2.1.2.1 0 (Nat.zero_add _)
  · refine ax_callSR (pc' := 7) ls_X7_97 (c_withinF hv) rfl rfl (Nat.le_of_ble_eq_true rfl) (Nat.le_of_ble_eq_true rfl) dX7_towns_4 rfl ?_
    refine ax_if_ne (pc' := 10) (tgt := 12) dX7_towns_7 (by decide) rfl (fun hz => absurd (kz_0) hz) (fun _ => ?_)
    refine ax_iconst (pc' := 11) (v := (-1)) kc_m1 dX7_towns_10 rfl ?_
    exact ax_iret dX7_towns_11 rfl (Nat.le_of_ble_eq_true rfl) (Nat.le_of_ble_eq_true rfl) (⟨by simp [o_towns, e1], hx0, ax_fr.rf⟩)
theorem x_miscount (hx : xs_At σ.1 S) (hS : sp_Ok S) (v u t : Int32) : ax_N mX7_miscount 8 0 0 [.ref 0, .int v, .int u, .int t] σ (xs_Po σ (o_miscount S v u t)) := by
  have hx0 := hx
  obtain ⟨pb, pq, ts, hpp, hX, hPa, hRd, hK, hY, hK1, hK2, hT, hto, hSg, hG, hQ⟩ := hx
  have X_o := hX.1
  have hp := hX.2.2.2
  have hk := hS.2.2.2.1
  have h9 := hk.1
  have K_o : σ.1 5 = _ := hK.choose_spec.choose_spec.choose_spec.choose_spec.1
  refine ax_N.of (ls := [some (.ref 0), some (.int v), some (.int u), some (.int t), none, none, none]) (by decide +kernel) rfl (Nat.le_of_ble_eq_true rfl) ?_
  have NO : ∀ zz, o_miscount S v u t = (-1, S) → ax_J (mX7_miscount, 8, 0, 0) 0 0 29 zz [] σ (xs_Po σ (o_miscount S v u t)) := by
    intro zz ho
    rw [ho]
    refine ax_iconst (pc' := 30) (v := (-1)) kc_m1 dX7_miscount_29 rfl ?_
    exact ax_iret dX7_miscount_30 rfl (Nat.le_of_ble_eq_true rfl) (Nat.le_of_ble_eq_true rfl) (⟨rfl, hx0, ax_fr.rf⟩)
  refine ax_iload_n (pc' := 1) rfl dX7_miscount_0 rfl ?_
  refine ax_iconst (pc' := 2) (v := (nI 0)) kc_0 dX7_miscount_1 rfl ?_
  refine ax_bipush (pc' := 4) (v := (nI 99)) kb_99 dX7_miscount_2 rfl ?_
  rcases sp_in_cases v (lo := 0) (hi := 99) (by decide) (by decide) with ⟨e, -, he, rfl, e1⟩ | ⟨hv, e1⟩
  · refine ax_callSR (pc' := 7) ls_X7_97 (c_withinT (nI_le (Nat.zero_le _) (by omega)) (nI_le he (by decide))) rfl rfl (Nat.le_of_ble_eq_true rfl) (Nat.le_of_ble_eq_true rfl) dX7_miscount_4 rfl ?_
    refine ax_if_eq (pc' := 10) (tgt := 29) dX7_miscount_7 (by decide) rfl (fun hz => absurd hz (kz_1)) (fun _ => ?_)
    refine ax_iload_n (pc' := 11) rfl dX7_miscount_10 rfl ?_
    refine ax_iconst (pc' := 12) (v := (nI 0)) kc_0 dX7_miscount_11 rfl ?_
    refine ax_bipush (pc' := 14) (v := (nI 10)) kb_10 dX7_miscount_12 rfl ?_
    rcases sp_in_cases u (lo := 0) (hi := 10) (by decide) (by decide) with ⟨x, -, hx1, rfl, e2⟩ | ⟨hu, e2⟩
    · refine ax_callSR (pc' := 17) ls_X7_97 (c_withinT (nI_le (Nat.zero_le _) (by omega)) (nI_le hx1 (by decide))) rfl rfl (Nat.le_of_ble_eq_true rfl) (Nat.le_of_ble_eq_true rfl) dX7_miscount_14 rfl ?_
      refine ax_if_eq (pc' := 20) (tgt := 29) dX7_miscount_17 (by decide) rfl (fun hz => absurd hz (kz_1)) (fun _ => ?_)
      refine ax_iload_n (pc' := 21) rfl dX7_miscount_20 rfl ?_
      refine ax_iconst (pc' := 22) (v := (nI 0)) kc_0 dX7_miscount_21 rfl ?_
      refine ax_iconst (pc' := 23) (v := (nI 1)) kc_1 dX7_miscount_22 rfl ?_
      rcases sp_in_cases t (lo := 0) (hi := 1) (by decide) (by decide) with ⟨i, i1, i2, rfl, e3⟩ | ⟨ht, e3⟩
      · refine ax_callSR (pc' := 26) ls_X7_97 (c_withinT (nI_le i1 (by omega)) (nI_le i2 (by decide))) rfl rfl (Nat.le_of_ble_eq_true rfl) (Nat.le_of_ble_eq_true rfl) dX7_miscount_23 rfl ?_
        refine ax_if_ne (pc' := 29) (tgt := 31) dX7_miscount_26 (by decide) rfl (fun _ => ?_) (fun hz => absurd hz (kz_1))
        refine ax_bipush (pc' := 33) (v := (nI 10)) kb_10 dX7_miscount_31 rfl ?_
        refine ax_aload_n (pc' := 34) rfl dX7_miscount_33 rfl ?_
        refine ax_getf (pc' := 37) fl_X7_26 X_o rfl dX7_miscount_34 rfl ?_
        refine ax_getf (pc' := 40) fl_X7_178 K_o rfl dX7_miscount_37 rfl ?_
        refine ax_callSR (pc' := 43) ls_X7_261 (c_power (x := 10) (t := S.2.2.1.1.length) (by omega)) rfl rfl (Nat.le_of_ble_eq_true rfl) (Nat.le_of_ble_eq_true rfl) dX7_miscount_40 rfl ?_
        refine ax_istore (pc' := 45) rfl (Nat.le_of_ble_eq_true rfl) dX7_miscount_43 rfl ?_
        refine ax_aload_n (pc' := 46) rfl dX7_miscount_45 rfl ?_
        refine ax_iload_n (pc' := 47) rfl dX7_miscount_46 rfl ?_
        refine ax_iload_n (pc' := 48) rfl dX7_miscount_47 rfl ?_
        refine ax_callVG (pc' := 51) lv_X7_264 (c_waysNear hX hG hK hk he hx1) X_o rfl rfl (Nat.le_of_ble_eq_true rfl) (Nat.le_of_ble_eq_true rfl) dX7_miscount_48 rfl (fun r σ' hr => ?_)
        obtain ⟨rfl, hG2, hF⟩ := hr
        have hx' : xs_At σ'.1 S := ⟨pb, pq, ts, hpp, hX.on (hF.2 0 (by omega)) (fun z _ _ => hF.2 z (by omega)), hPa.on (fun z _ _ => hF.2 z (by omega)), hRd.on (fun z _ _ => hF.2 z (by omega)), hK.on (fun z _ _ => hF.2 z (by omega)), hY.on (fun z _ _ => hF.2 z (by omega)), hK1.on (fun z _ _ => hF.2 z (by omega)), hK2.on (fun z _ _ => hF.2 z (by omega)), hT.on (fun z _ _ => hF.2 z (by omega)), hto, hSg.on (fun z _ _ => hF.2 z (by omega)), hG2.any, hQ.on (fun z _ _ => hF.2 z (by omega))⟩
        have hF0 : ax_fr 0 56 σ σ' := ax_fr.rf.tr hF (by omega) (by omega)
        obtain ⟨A, hA⟩ : ∃ A, A = sp_up2 S e x := ⟨_, rfl⟩
        obtain ⟨B, hB⟩ : ∃ B, B = 10 ^ S.2.2.1.1.length := ⟨_, rfl⟩
        have hAB : A ≤ B := by
          rw [hA, hB, ← sp_ways_all S.2.2.1.1.length (by omega) x (by omega)]
          exact sp_ways_le _ _ _ _
        have hB9 : B ≤ 1000000000 := by
          rw [hB]
          exact Nat.le_trans (Nat.pow_le_pow_right (by decide) h9) (by decide)
        have hB0 : 0 < B := by rw [hB]; exact Nat.pow_pos (by decide)
        rw [show sp_ways (fun s => sp_near S.2.1.1 e (sp_mean (sp_sel S.2.1 S.2.2.1.1 511 s) S.2.2.1.1.length)) x S.2.2.1.1.length (2 ^ S.2.2.1.1.length) = A from hA.symm, ← hB]
        have hgp : 0 < Nat.gcd A B := Nat.gcd_pos_of_pos_right A hB0
        have hgl : Nat.gcd A B ≤ B := Nat.gcd_le_right A hB0
        refine ax_istore (pc' := 53) rfl (Nat.le_of_ble_eq_true rfl) dX7_miscount_51 rfl ?_
        refine ax_iload (pc' := 55) rfl dX7_miscount_53 rfl ?_
        refine ax_iload (pc' := 57) rfl dX7_miscount_55 rfl ?_
        refine ax_callSR (pc' := 60) ls_X7_267 (c_commonDivisor hAB hB9) rfl rfl (Nat.le_of_ble_eq_true rfl) (Nat.le_of_ble_eq_true rfl) dX7_miscount_57 rfl ?_
        refine ax_istore (pc' := 62) rfl (Nat.le_of_ble_eq_true rfl) dX7_miscount_60 rfl ?_
        refine ax_iload_n (pc' := 63) rfl dX7_miscount_62 rfl ?_
        obtain rfl | rfl : i = 0 ∨ i = 1 := by omega
        · refine ax_if_ne (pc' := 66) (tgt := 72) dX7_miscount_63 (by decide) rfl (fun hz => absurd (kz_0) hz) (fun _ => ?_)
          refine ax_iload (pc' := 68) rfl dX7_miscount_66 rfl ?_
          refine ax_i2l (pc' := 69) dX7_miscount_68 rfl ?_
          refine ax_topl (nI_l (by omega)) ?_
          refine ax_goto (tgt := 75) dX7_miscount_69 (by decide) ?_
          refine ax_iload (pc' := 77) rfl dX7_miscount_75 rfl ?_
          refine ax_callSR (pc' := 80) ls_X7_240 (c_cut (a := A) (d := Nat.gcd A B) (by omega) hgp (by omega)) rfl rfl (Nat.le_of_ble_eq_true rfl) (Nat.le_of_ble_eq_true rfl) dX7_miscount_77 rfl ?_
          exact ax_iret dX7_miscount_80 rfl (Nat.le_of_ble_eq_true rfl) (Nat.le_of_ble_eq_true rfl) (⟨by simp [o_miscount, e1, e2, e3, ← hA, ← hB], hx', hF0⟩)
        · refine ax_if_ne (pc' := 66) (tgt := 72) dX7_miscount_63 (by decide) rfl (fun _ => ?_) (fun hz => absurd hz (kz_1))
          refine ax_iload (pc' := 74) rfl dX7_miscount_72 rfl ?_
          refine ax_i2l (pc' := 75) dX7_miscount_74 rfl ?_
          refine ax_topl (nI_l (by omega)) ?_
          refine ax_iload (pc' := 77) rfl dX7_miscount_75 rfl ?_
          refine ax_callSR (pc' := 80) ls_X7_240 (c_cut (a := B) (d := Nat.gcd A B) (by omega) hgp (by omega)) rfl rfl (Nat.le_of_ble_eq_true rfl) (Nat.le_of_ble_eq_true rfl) dX7_miscount_77 rfl ?_
          exact ax_iret dX7_miscount_80 rfl (Nat.le_of_ble_eq_true rfl) (Nat.le_of_ble_eq_true rfl) (⟨by simp [o_miscount, e1, e2, e3, ← hA, ← hB], hx', hF0⟩)
      · refine ax_callSR (pc' := 26) ls_X7_97 (c_withinF ht) rfl rfl (Nat.le_of_ble_eq_true rfl) (Nat.le_of_ble_eq_true rfl) dX7_miscount_23 rfl ?_
        refine ax_if_ne (pc' := 29) (tgt := 31) dX7_miscount_26 (by decide) rfl (fun hz => absurd (kz_0) hz) (fun _ => ?_)
        exact NO _ (by simp [o_miscount, e1, e2, e3])
    · refine ax_callSR (pc' := 17) ls_X7_97 (c_withinF hu) rfl rfl (Nat.le_of_ble_eq_true rfl) (Nat.le_of_ble_eq_true rfl) dX7_miscount_14 rfl ?_
      refine ax_if_eq (pc' := 20) (tgt := 29) dX7_miscount_17 (by decide) rfl (fun _ => ?_) (fun hz => absurd (kz_0) hz)
      exact NO _ (by simp [o_miscount, e1, e2])
  · refine ax_callSR (pc' := 7) ls_X7_97 (c_withinF hv) rfl rfl (Nat.le_of_ble_eq_true rfl) (Nat.le_of_ble_eq_true rfl) dX7_miscount_4 rfl ?_
    refine ax_if_eq (pc' := 10) (tgt := 29) dX7_miscount_7 (by decide) rfl (fun _ => ?_) (fun hz => absurd (kz_0) hz)
    exact NO _ (by simp [o_miscount, e1])
theorem x_year (hx : xs_At σ.1 S) (hS : sp_Ok S) (v u t : Int32) : ax_N mX7_year 8 0 0 [.ref 0, .int v, .int u, .int t] σ (xs_Po σ (o_year S v u t)) := by
  have hx0 := hx
  obtain ⟨pb, pq, ts, hpp, hX, hPa, hRd, hK, hY, hK1, hK2, hT, hto, hSg, hG, hQ⟩ := hx
  have X_o := hX.1
  have hp := hX.2.2.2
  have hb := hX.2.2.1
  have hk := hS.2.2.2.1
  have h9 := hk.1
  obtain ⟨ht2, hw1⟩ := hS.2.2.1
  have Y_o : σ.1 10 = _ := hY.choose_spec.choose_spec.choose_spec.choose_spec.choose_spec.choose_spec.1
  refine ax_N.of (ls := [some (.ref 0), some (.int v), some (.int u), some (.int t), none]) (by decide +kernel) rfl (Nat.le_of_ble_eq_true rfl) ?_
  have NO : ∀ zz, o_year S v u t = (-1, S) → ax_J (mX7_year, 8, 0, 0) 0 0 30 zz [] σ (xs_Po σ (o_year S v u t)) := by
    intro zz ho
    rw [ho]
    refine ax_iconst (pc' := 31) (v := (-1)) kc_m1 dX7_year_30 rfl ?_
    exact ax_iret dX7_year_31 rfl (Nat.le_of_ble_eq_true rfl) (Nat.le_of_ble_eq_true rfl) (⟨rfl, hx0, ax_fr.rf⟩)
  refine ax_iload_n (pc' := 1) rfl dX7_year_0 rfl ?_
  refine ax_iconst (pc' := 2) (v := (nI 0)) kc_0 dX7_year_1 rfl ?_
  refine ax_sipush (pc' := 5) (v := (nI 9999)) ks_9999 dX7_year_2 rfl ?_
  rcases sp_in_cases v (lo := 0) (hi := 9999) (by decide) (by decide) with ⟨z, -, hz, rfl, e1⟩ | ⟨hv, e1⟩
  · refine ax_callSR (pc' := 8) ls_X7_97 (c_withinT (nI_le (Nat.zero_le _) (by omega)) (nI_le hz (by decide))) rfl rfl (Nat.le_of_ble_eq_true rfl) (Nat.le_of_ble_eq_true rfl) dX7_year_5 rfl ?_
    refine ax_if_eq (pc' := 11) (tgt := 30) dX7_year_8 (by decide) rfl (fun hz => absurd hz (kz_1)) (fun _ => ?_)
    refine ax_iload_n (pc' := 12) rfl dX7_year_11 rfl ?_
    refine ax_iconst (pc' := 13) (v := (nI 1)) kc_1 dX7_year_12 rfl ?_
    refine ax_bipush (pc' := 15) (v := (nI 40)) kb_40 dX7_year_13 rfl ?_
    rcases sp_in_cases u (lo := 1) (hi := 40) (by decide) (by decide) with ⟨n, hn1, hn2, rfl, e2⟩ | ⟨hu, e2⟩
    · refine ax_callSR (pc' := 18) ls_X7_97 (c_withinT (nI_le hn1 (by omega)) (nI_le hn2 (by decide))) rfl rfl (Nat.le_of_ble_eq_true rfl) (Nat.le_of_ble_eq_true rfl) dX7_year_15 rfl ?_
      refine ax_if_eq (pc' := 21) (tgt := 30) dX7_year_18 (by decide) rfl (fun hz => absurd hz (kz_1)) (fun _ => ?_)
      refine ax_iload_n (pc' := 22) rfl dX7_year_21 rfl ?_
      refine ax_iconst (pc' := 23) (v := (nI 0)) kc_0 dX7_year_22 rfl ?_
      refine ax_iconst (pc' := 24) (v := (nI 1)) kc_1 dX7_year_23 rfl ?_
      rcases sp_in_cases t (lo := 0) (hi := 1) (by decide) (by decide) with ⟨i, i1, i2, rfl, e3⟩ | ⟨ht, e3⟩
      · refine ax_callSR (pc' := 27) ls_X7_97 (c_withinT (nI_le i1 (by omega)) (nI_le i2 (by decide))) rfl rfl (Nat.le_of_ble_eq_true rfl) (Nat.le_of_ble_eq_true rfl) dX7_year_24 rfl ?_
        refine ax_if_ne (pc' := 30) (tgt := 32) dX7_year_27 (by decide) rfl (fun _ => ?_) (fun hz => absurd hz (kz_1))
        refine ax_aload_n (pc' := 33) rfl dX7_year_32 rfl ?_
        refine ax_getf (pc' := 36) fl_X7_30 X_o rfl dX7_year_33 rfl ?_
        refine ax_aload_n (pc' := 37) rfl dX7_year_36 rfl ?_
        refine ax_getf (pc' := 40) fl_X7_26 X_o rfl dX7_year_37 rfl ?_
        refine ax_callVG (pc' := 43) lv_X7_270 (c_copyFrom hY hK h9 (by omega)) Y_o rfl rfl (Nat.le_of_ble_eq_true rfl) (Nat.le_of_ble_eq_true rfl) dX7_year_40 rfl (fun r σ' hr => ?_)
        obtain ⟨rfl, hY2, hF⟩ := hr
        have MK : ∀ τ : ax_S, ax_fr 10 5 σ τ → bk_Any τ.1 10 → xs_At τ.1 S := fun τ hF hY2 => ⟨pb, pq, ts, hpp, hX.on (hF.2 0 (by omega)) (fun z _ _ => hF.2 z (by omega)), hPa.on (fun z _ _ => hF.2 z (by omega)), hRd.on (fun z _ _ => hF.2 z (by omega)), hK.on (fun z _ _ => hF.2 z (by omega)), hY2, hK1.on (fun z _ _ => hF.2 z (by omega)), hK2.on (fun z _ _ => hF.2 z (by omega)), hT.on (fun z _ _ => hF.2 z (by omega)), hto, hSg.on (fun z _ _ => hF.2 z (by omega)), hG.on (fun z _ _ => hF.2 z (by omega)), hQ.on (fun z _ _ => hF.2 z (by omega))⟩
        refine ax_iconst (pc' := 44) (v := (nI 0)) kc_0 dX7_year_43 rfl ?_
        refine ax_istore (pc' := 46) rfl (Nat.le_of_ble_eq_true rfl) dX7_year_44 rfl ?_
        have K : ∀ m j (τ : ax_S), j + m = n → ax_fr 10 5 σ τ → bk_At τ.1 10 (sp_yr S.2.1 S.2.2.1 z j).1 (sp_yr S.2.1 S.2.2.1 z j).2 → ax_J (mX7_year, 8, 0, 0) 0 0 46 [some (.ref 0), some (.int (nI z)), some (.int (nI n)), some (.int (nI i)), some (.int (nI j))] [] τ (xs_Po σ (o_year S (nI z) (nI n) (nI i))) := by
          intro m
          induction m with
          | zero =>
            intro j τ hj hF hYb
            have hj : j = n := hj
            subst hj
            have hX' := hX.on (τ := τ) (hF.2 0 (by omega)) (fun z _ _ => hF.2 z (by omega))
            have X_o := hX'.1
            have hYo := sp_yr_ok (z := z) (k := j) hb hk ht2 hw1
            refine ax_iload (pc' := 48) rfl dX7_year_46 rfl ?_
            refine ax_iload_n (pc' := 49) rfl dX7_year_48 rfl ?_
            refine ax_icmp_ge (pc' := 52) (tgt := 72) dX7_year_49 (by decide) rfl (fun _ => ?_) (fun hz => absurd (nI_le (Nat.le_refl _) (by omega)) hz)
            refine ax_iload_n (pc' := 73) rfl dX7_year_72 rfl ?_
            obtain rfl | rfl : i = 0 ∨ i = 1 := by omega
            · refine ax_if_ne (pc' := 76) (tgt := 87) dX7_year_73 (by decide) rfl (fun hz => absurd (kz_0) hz) (fun _ => ?_)
              refine ax_aload_n (pc' := 77) rfl dX7_year_76 rfl ?_
              refine ax_aload_n (pc' := 78) rfl dX7_year_77 rfl ?_
              refine ax_getf (pc' := 81) fl_X7_30 X_o rfl dX7_year_78 rfl ?_
              refine ax_callVG (pc' := 84) lv_X7_204 (c_meanBy hX' (hG.on (τ := τ) (fun z _ _ => hF.2 z (by omega))) hYb hYo (by omega)) X_o rfl rfl (Nat.le_of_ble_eq_true rfl) (Nat.le_of_ble_eq_true rfl) dX7_year_81 rfl (fun r σ' hr => ?_)
              obtain ⟨rfl, hG2, hF2⟩ := hr
              have hF3 : ∀ q, (q < 10 ∨ 15 ≤ q) → (q < 37 ∨ 40 ≤ q) → σ'.1 q = σ.1 q := fun q a1 a2 => (hF2.2 q (by omega)).trans (hF.2 q (by omega))
              refine ax_goto (tgt := 102) dX7_year_84 (by decide) ?_
              exact ax_iret dX7_year_102 rfl (Nat.le_of_ble_eq_true rfl) (Nat.le_of_ble_eq_true rfl) (⟨by simp [o_year, e1, e2, e3], ⟨pb, pq, ts, hpp, hX.on (hF3 0 (by omega) (by omega)) (fun z _ _ => hF3 z (by omega) (by omega)), hPa.on (fun z _ _ => hF3 z (by omega) (by omega)), hRd.on (fun z _ _ => hF3 z (by omega) (by omega)), hK.on (fun z _ _ => hF3 z (by omega) (by omega)), hYb.any.on (fun z _ _ => hF2.2 z (by omega)), hK1.on (fun z _ _ => hF3 z (by omega) (by omega)), hK2.on (fun z _ _ => hF3 z (by omega) (by omega)), hT.on (fun z _ _ => hF3 z (by omega) (by omega)), hto, hSg.on (fun z _ _ => hF3 z (by omega) (by omega)), hG2.any, hQ.on (fun z _ _ => hF3 z (by omega) (by omega))⟩, hF2.1.trans hF.1, fun q hq => hF3 q (by omega) (by omega)⟩)
            · have Y_o : τ.1 10 = _ := hYb.choose_spec.choose_spec.choose_spec.choose_spec.1
              have hKt := hK.on (τ := τ) (fun z _ _ => hF.2 z (by omega))
              have K_o : τ.1 5 = _ := hKt.choose_spec.choose_spec.choose_spec.choose_spec.1
              refine ax_if_ne (pc' := 76) (tgt := 87) dX7_year_73 (by decide) rfl (fun _ => ?_) (fun hz => absurd hz (kz_1))
              refine ax_aload_n (pc' := 88) rfl dX7_year_87 rfl ?_
              refine ax_getf (pc' := 91) fl_X7_30 X_o rfl dX7_year_88 rfl ?_
              refine ax_getf (pc' := 94) fl_X7_279 Y_o rfl dX7_year_91 rfl ?_
              refine ax_aload_n (pc' := 95) rfl dX7_year_94 rfl ?_
              refine ax_getf (pc' := 98) fl_X7_26 X_o rfl dX7_year_95 rfl ?_
              refine ax_getf (pc' := 101) fl_X7_279 K_o rfl dX7_year_98 rfl ?_
              refine ax_isub (pc' := 102) dX7_year_101 rfl ?_
              exact ax_iret dX7_year_102 rfl (Nat.le_of_ble_eq_true rfl) (Nat.le_of_ble_eq_true rfl) (⟨by simp [o_year, e1, e2, e3], MK τ hF hYb.any, ax_fr.rf.tr hF (by omega) (by omega)⟩)
          | succ m ih =>
            intro j τ hj hF hYb
            have hX' := hX.on (τ := τ) (hF.2 0 (by omega)) (fun z _ _ => hF.2 z (by omega))
            have X_o := hX'.1
            have hYo := sp_yr_ok (z := z) (k := j) hb hk ht2 hw1
            refine ax_iload (pc' := 48) rfl dX7_year_46 rfl ?_
            refine ax_iload_n (pc' := 49) rfl dX7_year_48 rfl ?_
            refine ax_icmp_ge (pc' := 52) (tgt := 72) dX7_year_49 (by decide) rfl (fun hz => absurd hz (nI_ge (by omega) (by omega))) (fun _ => ?_)
            refine ax_aload_n (pc' := 53) rfl dX7_year_52 rfl ?_
            refine ax_aload_n (pc' := 54) rfl dX7_year_53 rfl ?_
            refine ax_getf (pc' := 57) fl_X7_30 X_o rfl dX7_year_54 rfl ?_
            refine ax_iload_n (pc' := 58) rfl dX7_year_57 rfl ?_
            refine ax_iload (pc' := 60) rfl dX7_year_58 rfl ?_
            refine ax_callSR (pc' := 63) ls_X7_273 (c_drawOf hz (by omega)) rfl rfl (Nat.le_of_ble_eq_true rfl) (Nat.le_of_ble_eq_true rfl) dX7_year_60 rfl ?_
            refine ax_callVG (pc' := 66) lv_X7_276 (c_walkByDraw hX' hYb hYo ht2 hw1 (Nat.mod_lt _ (by decide)) (by omega) (by omega)) X_o rfl rfl (Nat.le_of_ble_eq_true rfl) (Nat.le_of_ble_eq_true rfl) dX7_year_63 rfl (fun r σ' hr => ?_)
            obtain ⟨rfl, hY3, hF2⟩ := hr
            refine ax_iinc1 (pc' := 69) rfl rfl (Nat.le_of_ble_eq_true rfl) dX7_year_66 rfl ?_
            refine ax_goto (tgt := 46) dX7_year_69 (by decide) ?_
            exact ih (j + 1) σ' (by omega) (hF.tr hF2 (by omega) (by omega)) hY3
        exact K n 0 σ' (Nat.zero_add _) hF hY2
      · refine ax_callSR (pc' := 27) ls_X7_97 (c_withinF ht) rfl rfl (Nat.le_of_ble_eq_true rfl) (Nat.le_of_ble_eq_true rfl) dX7_year_24 rfl ?_
        refine ax_if_ne (pc' := 30) (tgt := 32) dX7_year_27 (by decide) rfl (fun hz => absurd (kz_0) hz) (fun _ => ?_)
        exact NO _ (by simp [o_year, e1, e2, e3])
    · refine ax_callSR (pc' := 18) ls_X7_97 (c_withinF hu) rfl rfl (Nat.le_of_ble_eq_true rfl) (Nat.le_of_ble_eq_true rfl) dX7_year_15 rfl ?_
      refine ax_if_eq (pc' := 21) (tgt := 30) dX7_year_18 (by decide) rfl (fun _ => ?_) (fun hz => absurd (kz_0) hz)
      exact NO _ (by simp [o_year, e1, e2])
  · refine ax_callSR (pc' := 8) ls_X7_97 (c_withinF hv) rfl rfl (Nat.le_of_ble_eq_true rfl) (Nat.le_of_ble_eq_true rfl) dX7_year_5 rfl ?_
    refine ax_if_eq (pc' := 11) (tgt := 30) dX7_year_8 (by decide) rfl (fun _ => ?_) (fun hz => absurd (kz_0) hz)
    exact NO _ (by simp [o_year, e1])
theorem c_keptAt {pb pq j : Nat} {k : Int32} (X_o : σ.1 0 = some (.inr (7, [.ref 1, .ref 3, .ref 5, .ref 10, .ref 15, .ref 20, .ref 25, .ref 32, .ref 37, .ref pb, .ref pq, .int k]))) (hj : j < 2) : ax_R mX7_keptAt 0 [.ref 0, .int (nI j)] σ (.ref (15 + 5 * j)) := by
  refine ax_N.of (ls := [some (.ref 0), some (.int (nI j))]) (by decide +kernel) rfl (Nat.le_of_ble_eq_true rfl) ?_
  refine ax_iload_n (pc' := 1) rfl dX7_keptAt_0 rfl ?_
  obtain rfl | rfl : j = 0 ∨ j = 1 := by omega
  · refine ax_if_ne (pc' := 4) (tgt := 11) dX7_keptAt_1 (by decide) rfl (fun hz => absurd (kz_0) hz) (fun _ => ?_)
    refine ax_aload_n (pc' := 5) rfl dX7_keptAt_4 rfl ?_
    refine ax_getf (pc' := 8) fl_X7_33 X_o rfl dX7_keptAt_5 rfl ?_
    refine ax_goto (tgt := 15) dX7_keptAt_8 (by decide) ?_
    exact ax_aret dX7_keptAt_15 rfl (Nat.le_of_ble_eq_true rfl) (Nat.le_of_ble_eq_true rfl) (⟨rfl, rfl⟩)
  · refine ax_if_ne (pc' := 4) (tgt := 11) dX7_keptAt_1 (by decide) rfl (fun _ => ?_) (fun hz => absurd hz (kz_1))
    refine ax_aload_n (pc' := 12) rfl dX7_keptAt_11 rfl ?_
    refine ax_getf (pc' := 15) fl_X7_36 X_o rfl dX7_keptAt_12 rfl ?_
    exact ax_aret dX7_keptAt_15 rfl (Nat.le_of_ble_eq_true rfl) (Nat.le_of_ble_eq_true rfl) (⟨rfl, rfl⟩)
theorem x_keep (hx : xs_At σ.1 S) (hS : sp_Ok S) : ax_N mX7_keep 8 0 0 [.ref 0] σ (xs_Po σ (o_keep S)) := by
  have hx0 := hx
  obtain ⟨pb, pq, ts, hpp, hX, hPa, hRd, hK, hY, hK1, hK2, hT, hto, hSg, hG, hQ⟩ := hx
  have X_o := hX.1
  have hp := hX.2.2.2
  have h9 := hS.2.2.2.1.1
  have hks := hS.2.2.2.2.2.2.1
  refine ax_N.of (ls := [some (.ref 0)]) (by decide +kernel) rfl (Nat.le_of_ble_eq_true rfl) ?_
  refine ax_aload_n (pc' := 1) rfl dX7_keep_0 rfl ?_
  refine ax_getf (pc' := 4) fl_X7_70 X_o rfl dX7_keep_1 rfl ?_
  refine ax_iconst (pc' := 5) (v := (nI 2)) kc_2 dX7_keep_4 rfl ?_
  by_cases hl : S.2.2.2.2.1.length < 2
  · have ho : o_keep S = (nI (S.2.2.2.2.1.length + 1), (S.1, S.2.1, S.2.2.1, S.2.2.2.1, S.2.2.2.2.1 ++ [S.2.2.1], S.2.2.2.2.2)) := by simp [o_keep, hl]
    rw [ho]
    obtain ⟨j, hj⟩ : ∃ j, j = S.2.2.2.2.1.length := ⟨_, rfl⟩
    rw [← hj] at hl X_o ⊢
    have hZ : bk_Any σ.1 (15 + 5 * j) := by
      obtain h | h : j = 0 ∨ j = 1 := by omega
      · rw [h]; exact hK1.any
      · rw [h]; exact hK2.any
    have Z_o : σ.1 (15 + 5 * j) = _ := hZ.choose_spec.choose_spec.choose_spec.choose_spec.choose_spec.choose_spec.1
    refine ax_icmp_lt (pc' := 8) (tgt := 11) dX7_keep_5 (by decide) rfl (fun _ => ?_) (fun hz => absurd (nI_lt hl (by decide)) hz)
    refine ax_aload_n (pc' := 12) rfl dX7_keep_11 rfl ?_
    refine ax_aload_n (pc' := 13) rfl dX7_keep_12 rfl ?_
    refine ax_getf (pc' := 16) fl_X7_70 X_o rfl dX7_keep_13 rfl ?_
    refine ax_callVR (pc' := 19) lv_X7_282 (c_keptAt X_o hl) X_o rfl rfl (Nat.le_of_ble_eq_true rfl) (Nat.le_of_ble_eq_true rfl) dX7_keep_16 rfl ?_
    refine ax_aload_n (pc' := 20) rfl dX7_keep_19 rfl ?_
    refine ax_getf (pc' := 23) fl_X7_26 X_o rfl dX7_keep_20 rfl ?_
    refine ax_callVG (pc' := 26) lv_X7_270 (c_copyFrom hZ hK h9 (by omega)) Z_o rfl rfl (Nat.le_of_ble_eq_true rfl) (Nat.le_of_ble_eq_true rfl) dX7_keep_23 rfl (fun r σ' hr => ?_)
    obtain ⟨rfl, hZ2, hF⟩ := hr
    have X_o := hF.at X_o (by omega)
    refine ax_aload_n (pc' := 27) rfl dX7_keep_26 rfl ?_
    refine ax_dup (pc' := 28) rfl dX7_keep_27 rfl ?_
    refine ax_getf (pc' := 31) fl_X7_70 X_o rfl dX7_keep_28 rfl ?_
    refine ax_iconst (pc' := 32) (v := (nI 1)) kc_1 dX7_keep_31 rfl ?_
    refine ax_iadd (pc' := 33) dX7_keep_32 rfl ?_
    refine ax_topi (nI_add j 1) ?_
    refine ax_putu (pc' := 36) fp_X7_70 X_o rfl (fun _ => ⟨rfl, rfl⟩) dX7_keep_33 rfl (fun s1 h1 => ?_)
    have X_o := ax_kS h1
    refine ax_aload_n (pc' := 37) rfl dX7_keep_36 rfl ?_
    refine ax_getf (pc' := 40) fl_X7_70 X_o rfl dX7_keep_37 rfl ?_
    have G : ∀ q, 1 ≤ q → (q < 15 + 5 * j ∨ 15 + 5 * j + 5 ≤ q) → s1.1 q = σ.1 q := fun q a1 a2 => (ax_kF h1 (by omega)).trans (hF.2 q (by omega))
    have hZ3 : bk_At s1.1 (15 + 5 * j) S.2.2.1.1 S.2.2.1.2 := hZ2.on (fun q _ _ => ax_kF h1 (by omega))
    have hlen : (S.2.2.2.2.1 ++ [S.2.2.1]).length = j + 1 := by simp [hj]
    refine ax_iret dX7_keep_40 rfl (Nat.le_refl 0) (Nat.le_refl 0) ⟨rfl, ⟨pb, pq, ts, hpp, ⟨by rw [hlen]; exact X_o, hX.2.1.on (fun z _ _ => G z (by omega) (by omega)), hX.2.2⟩, hPa.on (fun z _ _ => G z (by omega) (by omega)), hRd.on (fun z _ _ => G z (by omega) (by omega)), hK.on (fun z _ _ => G z (by omega) (by omega)), hY.on (fun z _ _ => G z (by omega) (by omega)), ?_, ?_, hT.on (fun z _ _ => G z (by omega) (by omega)), hto, hSg.on (fun z _ _ => G z (by omega) (by omega)), hG.on (fun z _ _ => G z (by omega) (by omega)), hQ.on (fun z _ _ => G z (by omega) (by omega))⟩, (ax_k2 h1).trans hF.1, fun q hq => G q (by omega) (by omega)⟩
    · show kp_At s1.1 15 ((S.2.2.2.2.1 ++ [S.2.2.1])[0]?)
      obtain h | h : j = 0 ∨ j = 1 := by omega
      · rw [List.getElem?_append_right (by omega), show 0 - S.2.2.2.2.1.length = 0 by omega]
        rw [h] at hZ3
        exact hZ3
      · rw [List.getElem?_append_left (by omega)]
        exact hK1.on (fun z _ _ => G z (by omega) (by omega))
    · show kp_At s1.1 20 ((S.2.2.2.2.1 ++ [S.2.2.1])[1]?)
      obtain h | h : j = 0 ∨ j = 1 := by omega
      · rw [List.getElem?_eq_none (by rw [hlen]; omega)]
        exact hK2.any.on (fun z _ _ => G z (by omega) (by omega))
      · rw [List.getElem?_append_right (by omega), show 1 - S.2.2.2.2.1.length = 0 by omega]
        rw [h] at hZ3
        exact hZ3
  · have ho : o_keep S = (-3, S) := by simp [o_keep, hl]
    rw [ho]
    refine ax_icmp_lt (pc' := 8) (tgt := 11) dX7_keep_5 (by decide) rfl (fun hz => absurd hz (nI_nlt (by omega) (by omega))) (fun _ => ?_)
    refine ax_bipush (pc' := 10) (v := (-3)) kb_m3 dX7_keep_8 rfl ?_
    exact ax_iret dX7_keep_10 rfl (Nat.le_of_ble_eq_true rfl) (Nat.le_of_ble_eq_true rfl) (⟨rfl, hx0, ax_fr.rf⟩)
theorem x_back (hx : xs_At σ.1 S) (hS : sp_Ok S) : ax_N mX7_back 8 0 0 [.ref 0] σ (xs_Po σ (o_back S)) := by
  have hx0 := hx
  obtain ⟨pb, pq, ts, hpp, hX, hPa, hRd, hK, hY, hK1, hK2, hT, hto, hSg, hG, hQ⟩ := hx
  have X_o := hX.1
  have hp := hX.2.2.2
  have hks := hS.2.2.2.2.2.2.1
  refine ax_N.of (ls := [some (.ref 0)]) (by decide +kernel) rfl (Nat.le_of_ble_eq_true rfl) ?_
  refine ax_aload_n (pc' := 1) rfl dX7_back_0 rfl ?_
  refine ax_getf (pc' := 4) fl_X7_70 X_o rfl dX7_back_1 rfl ?_
  by_cases hl : S.2.2.2.2.1.length = 0
  · have ho : o_back S = (-2, S) := by simp [o_back, hl]
    rw [ho]
    refine ax_if_ne (pc' := 7) (tgt := 10) dX7_back_4 (by decide) rfl (fun hz => absurd (by rw [hl]; exact kz_0) hz) (fun _ => ?_)
    refine ax_bipush (pc' := 9) (v := (-2)) kb_m2 dX7_back_7 rfl ?_
    exact ax_iret dX7_back_9 rfl (Nat.le_of_ble_eq_true rfl) (Nat.le_of_ble_eq_true rfl) (⟨rfl, hx0, ax_fr.rf⟩)
  · obtain ⟨j, hj⟩ : ∃ j, S.2.2.2.2.1.length = j + 1 := ⟨S.2.2.2.2.1.length - 1, by omega⟩
    have hjlt : j < S.2.2.2.2.1.length := by omega
    obtain ⟨B, hB⟩ : ∃ B, B = S.2.2.2.2.1.getD j S.2.2.1 := ⟨_, rfl⟩
    have hge : S.2.2.2.2.1[j]? = some B := by
      rw [hB, List.getD_eq_getElem?_getD, List.getElem?_eq_getElem hjlt]
      rfl
    have hB9 : B.1.length ≤ 9 := by rw [hB]; exact (hS.2.2.2.2.2.2.2.1 _ (sp_getD_mem hjlt)).1
    have ho : o_back S = (nI j, (S.1, S.2.1, B, [], S.2.2.2.2.1.take j, S.2.2.2.2.2)) := by
      rw [o_back, if_neg hl, hj, hB]
      rfl
    rw [ho]
    rw [hj] at X_o
    refine ax_if_ne (pc' := 7) (tgt := 10) dX7_back_4 (by decide) rfl (fun _ => ?_) (fun hz => absurd hz (by rw [hj]; exact nI_ne0 (by omega) (by omega)))
    refine ax_aload_n (pc' := 11) rfl dX7_back_10 rfl ?_
    refine ax_dup (pc' := 12) rfl dX7_back_11 rfl ?_
    refine ax_getf (pc' := 15) fl_X7_70 X_o rfl dX7_back_12 rfl ?_
    refine ax_iconst (pc' := 16) (v := (nI 1)) kc_1 dX7_back_15 rfl ?_
    refine ax_isub (pc' := 17) dX7_back_16 rfl ?_
    refine ax_topi (v' := nI j) (nI_pred j) ?_
    refine ax_putu (pc' := 20) fp_X7_70 X_o rfl (fun _ => ⟨rfl, rfl⟩) dX7_back_17 rfl (fun s1 h1 => ?_)
    have X_o := ax_kS h1
    have hK := hK.on (τ := s1) (fun q _ _ => ax_kF h1 (by omega))
    have hZ : bk_At s1.1 (15 + 5 * j) B.1 B.2 := by
      obtain h | h : j = 0 ∨ j = 1 := by omega
      · subst h
        rw [hge] at hK1
        exact bk_At.on hK1 (fun q _ _ => ax_kF h1 (by omega))
      · subst h
        rw [hge] at hK2
        exact bk_At.on hK2 (fun q _ _ => ax_kF h1 (by omega))
    have K_o : s1.1 5 = _ := hK.choose_spec.choose_spec.choose_spec.choose_spec.1
    have hT := hT.on (τ := s1) (fun q _ _ => ax_kF h1 (by omega))
    refine ax_aload_n (pc' := 21) rfl dX7_back_20 rfl ?_
    refine ax_getf (pc' := 24) fl_X7_26 X_o rfl dX7_back_21 rfl ?_
    refine ax_aload_n (pc' := 25) rfl dX7_back_24 rfl ?_
    refine ax_aload_n (pc' := 26) rfl dX7_back_25 rfl ?_
    refine ax_getf (pc' := 29) fl_X7_70 X_o rfl dX7_back_26 rfl ?_
    refine ax_callVR (pc' := 32) lv_X7_282 (c_keptAt X_o (by omega)) X_o rfl rfl (Nat.le_of_ble_eq_true rfl) (Nat.le_of_ble_eq_true rfl) dX7_back_29 rfl ?_
    refine ax_callVG (pc' := 35) lv_X7_270 (c_copyFrom hK.any hZ hB9 (by omega)) K_o rfl rfl (Nat.le_of_ble_eq_true rfl) (Nat.le_of_ble_eq_true rfl) dX7_back_32 rfl (fun r2' s2 hr2 => ?_)
    obtain ⟨rfl, hKn, hF⟩ := hr2
    have X_o := hF.at X_o (by omega)
    have hT := hT.on (τ := s2) (fun q _ _ => hF.2 q (by omega))
    have T_o : s2.1 25 = _ := hT.choose_spec.choose_spec.choose_spec.choose_spec.choose_spec.choose_spec.1
    refine ax_aload_n (pc' := 36) rfl dX7_back_35 rfl ?_
    refine ax_getf (pc' := 39) fl_X7_42 X_o rfl dX7_back_36 rfl ?_
    refine ax_callVG (pc' := 42) lv_X7_110 (c_Trail_clear hT) T_o rfl rfl (Nat.le_of_ble_eq_true rfl) (Nat.le_of_ble_eq_true rfl) dX7_back_39 rfl (fun r3' s3 hr3 => ?_)
    obtain ⟨rfl, hT2, hF2⟩ := hr3
    have X_o := hF2.at X_o (by omega)
    refine ax_aload_n (pc' := 43) rfl dX7_back_42 rfl ?_
    refine ax_getf (pc' := 46) fl_X7_70 X_o rfl dX7_back_43 rfl ?_
    have G : ∀ q, 1 ≤ q → (q < 5 ∨ 10 ≤ q) → (q < 25 ∨ 32 ≤ q) → s3.1 q = σ.1 q := fun q a1 a2 a3 => (hF2.2 q (by omega)).trans ((hF.2 q (by omega)).trans (ax_kF h1 (by omega)))
    have hlen : (S.2.2.2.2.1.take j).length = j := by simp; omega
    refine ax_iret dX7_back_46 rfl (Nat.le_refl 0) (Nat.le_refl 0) ⟨rfl, ⟨pb, pq, [], hpp, ⟨by rw [hlen]; exact X_o, hX.2.1.on (fun z _ _ => G z (by omega) (by omega) (by omega)), hX.2.2⟩, hPa.on (fun z _ _ => G z (by omega) (by omega) (by omega)), hRd.on (fun z _ _ => G z (by omega) (by omega) (by omega)), hKn.on (fun z _ _ => hF2.2 z (by omega)), hY.on (fun z _ _ => G z (by omega) (by omega) (by omega)), ?_, ?_, hT2, tr_ok_nil, hSg.on (fun z _ _ => G z (by omega) (by omega) (by omega)), hG.on (fun z _ _ => G z (by omega) (by omega) (by omega)), hQ.on (fun z _ _ => G z (by omega) (by omega) (by omega))⟩, hF2.1.trans (hF.1.trans (ax_k2 h1)), fun q hq => G q (by omega) (by omega) (by omega)⟩
    · show kp_At s3.1 15 ((S.2.2.2.2.1.take j)[0]?)
      rw [List.getElem?_take]
      split
      · exact hK1.on (fun z _ _ => G z (by omega) (by omega) (by omega))
      · exact hK1.any.on (fun z _ _ => G z (by omega) (by omega) (by omega))
    · show kp_At s3.1 20 ((S.2.2.2.2.1.take j)[1]?)
      rw [List.getElem?_take, if_neg (by omega)]
      exact hK2.any.on (fun z _ _ => G z (by omega) (by omega) (by omega))
theorem x_count (hx : xs_At σ.1 S) (hS : sp_Ok S) (v : Int32) : ax_N mX7_count 8 0 0 [.ref 0, .int v] σ (xs_Po σ (o_count S v)) := by
  have hx0 := hx
  obtain ⟨pb, pq, ts, hpp, hX, hPa, hRd, hK, hY, hK1, hK2, hT, hto, hSg, hG, hQ⟩ := hx
  have X_o := hX.1
  obtain ⟨-, ⟨fr, hB, hrd⟩, hb, hp⟩ := id hX
  have B_o : σ.1 pb = _ := hB.choose_spec.choose_spec.choose_spec.choose_spec.choose_spec.choose_spec.1
  have S_o : σ.1 32 = _ := hSg.choose_spec.choose_spec.choose_spec.choose_spec.1
  have K_o : σ.1 5 = _ := hK.choose_spec.choose_spec.choose_spec.choose_spec.1
  have T_o : σ.1 25 = _ := hT.choose_spec.choose_spec.choose_spec.choose_spec.choose_spec.choose_spec.1
  have Pp_o : σ.1 1 = _ := hPa.choose_spec.1
  refine ax_N.of (ls := [some (.ref 0), some (.int v)]) (by decide +kernel) rfl (Nat.le_of_ble_eq_true rfl) ?_
  refine ax_iload_n (pc' := 1) rfl dX7_count_0 rfl ?_
  rcases sp_in_cases v (lo := 0) (hi := 8) (by decide) (by decide) with ⟨i, -, hi, rfl, e2⟩ | ⟨hu, e2⟩
  · obtain rfl | rfl | rfl | rfl | rfl | rfl | rfl | rfl | rfl : i = 0 ∨ i = 1 ∨ i = 2 ∨ i = 3 ∨ i = 4 ∨ i = 5 ∨ i = 6 ∨ i = 7 ∨ i = 8 := by omega
    · refine ax_tabIn (off := 51) (tgt := 52) dX7_count_1 (by decide) (by decide) (by decide) (by decide) ?_
      refine ax_aload_n (pc' := 53) rfl dX7_count_52 rfl ?_
      refine ax_getf (pc' := 56) fl_X7_63 X_o rfl dX7_count_53 rfl ?_
      refine ax_getf (pc' := 59) fl_X7_103 B_o rfl dX7_count_56 rfl ?_
      exact ax_iret dX7_count_59 rfl (Nat.le_of_ble_eq_true rfl) (Nat.le_of_ble_eq_true rfl) (⟨by simp [o_count, e2], hx0, ax_fr.rf⟩)
    · refine ax_tabIn (off := 59) (tgt := 60) dX7_count_1 (by decide) (by decide) (by decide) (by decide) ?_
      refine ax_aload_n (pc' := 61) rfl dX7_count_60 rfl ?_
      refine ax_getf (pc' := 64) fl_X7_63 X_o rfl dX7_count_61 rfl ?_
      refine ax_getf (pc' := 67) fl_X7_106 B_o rfl dX7_count_64 rfl ?_
      exact ax_iret dX7_count_67 rfl (Nat.le_of_ble_eq_true rfl) (Nat.le_of_ble_eq_true rfl) (⟨by simp [o_count, e2], hx0, ax_fr.rf⟩)
    · refine ax_tabIn (off := 67) (tgt := 68) dX7_count_1 (by decide) (by decide) (by decide) (by decide) ?_
      refine ax_aload_n (pc' := 69) rfl dX7_count_68 rfl ?_
      refine ax_getf (pc' := 72) fl_X7_63 X_o rfl dX7_count_69 rfl ?_
      refine ax_getf (pc' := 75) fl_X7_244 B_o rfl dX7_count_72 rfl ?_
      exact ax_iret dX7_count_75 rfl (Nat.le_of_ble_eq_true rfl) (Nat.le_of_ble_eq_true rfl) (⟨by simp [o_count, e2], hx0, ax_fr.rf⟩)
    · refine ax_tabIn (off := 75) (tgt := 76) dX7_count_1 (by decide) (by decide) (by decide) (by decide) ?_
      refine ax_aload_n (pc' := 77) rfl dX7_count_76 rfl ?_
      refine ax_getf (pc' := 80) fl_X7_26 X_o rfl dX7_count_77 rfl ?_
      refine ax_getf (pc' := 83) fl_X7_178 K_o rfl dX7_count_80 rfl ?_
      exact ax_iret dX7_count_83 rfl (Nat.le_of_ble_eq_true rfl) (Nat.le_of_ble_eq_true rfl) (⟨by simp [o_count, e2], hx0, ax_fr.rf⟩)
    · refine ax_tabIn (off := 83) (tgt := 84) dX7_count_1 (by decide) (by decide) (by decide) (by decide) ?_
      refine ax_aload_n (pc' := 85) rfl dX7_count_84 rfl ?_
      refine ax_getf (pc' := 88) fl_X7_26 X_o rfl dX7_count_85 rfl ?_
      refine ax_getf (pc' := 91) fl_X7_279 K_o rfl dX7_count_88 rfl ?_
      exact ax_iret dX7_count_91 rfl (Nat.le_of_ble_eq_true rfl) (Nat.le_of_ble_eq_true rfl) (⟨by simp [o_count, e2], hx0, ax_fr.rf⟩)
    · refine ax_tabIn (off := 91) (tgt := 92) dX7_count_1 (by decide) (by decide) (by decide) (by decide) ?_
      refine ax_aload_n (pc' := 93) rfl dX7_count_92 rfl ?_
      refine ax_getf (pc' := 96) fl_X7_49 X_o rfl dX7_count_93 rfl ?_
      refine ax_getf (pc' := 99) fl_X7_247 S_o rfl dX7_count_96 rfl ?_
      exact ax_iret dX7_count_99 rfl (Nat.le_of_ble_eq_true rfl) (Nat.le_of_ble_eq_true rfl) (⟨by simp [o_count, e2], hx0, ax_fr.rf⟩)
    · refine ax_tabIn (off := 99) (tgt := 100) dX7_count_1 (by decide) (by decide) (by decide) (by decide) ?_
      refine ax_aload_n (pc' := 101) rfl dX7_count_100 rfl ?_
      refine ax_getf (pc' := 104) fl_X7_42 X_o rfl dX7_count_101 rfl ?_
      refine ax_getf (pc' := 107) fl_X7_199 T_o rfl dX7_count_104 rfl ?_
      exact ax_iret dX7_count_107 rfl (Nat.le_of_ble_eq_true rfl) (Nat.le_of_ble_eq_true rfl) (⟨by simp [o_count, e2, hto.1], hx0, ax_fr.rf⟩)
    · refine ax_tabIn (off := 107) (tgt := 108) dX7_count_1 (by decide) (by decide) (by decide) (by decide) ?_
      refine ax_aload_n (pc' := 109) rfl dX7_count_108 rfl ?_
      refine ax_getf (pc' := 112) fl_X7_70 X_o rfl dX7_count_109 rfl ?_
      exact ax_iret dX7_count_112 rfl (Nat.le_of_ble_eq_true rfl) (Nat.le_of_ble_eq_true rfl) (⟨by simp [o_count, e2], hx0, ax_fr.rf⟩)
    · refine ax_tabIn (off := 112) (tgt := 113) dX7_count_1 (by decide) (by decide) (by decide) (by decide) ?_
      refine ax_aload_n (pc' := 114) rfl dX7_count_113 rfl ?_
      refine ax_getf (pc' := 117) fl_X7_12 X_o rfl dX7_count_114 rfl ?_
      refine ax_getf (pc' := 120) fl_X7_101 Pp_o rfl dX7_count_117 rfl ?_
      exact ax_iret dX7_count_120 rfl (Nat.le_of_ble_eq_true rfl) (Nat.le_of_ble_eq_true rfl) (⟨by simp [o_count, e2], hx0, ax_fr.rf⟩)
  · refine ax_tabOut (tgt := 121) dX7_count_1 (sp_out (lo := 0) (hi := 8) (by decide) (by decide) hu) (by decide) ?_
    refine ax_iconst (pc' := 122) (v := (-1)) kc_m1 dX7_count_121 rfl ?_
    exact ax_iret dX7_count_122 rfl (Nat.le_of_ble_eq_true rfl) (Nat.le_of_ble_eq_true rfl) (⟨by simp [o_count, e2], hx0, ax_fr.rf⟩)
end XC
