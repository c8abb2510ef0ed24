/-! ===== the model: its world and its questions ===== -/
def ms_sl (f : Nat → Int32) (B : sp_Bk) (us ks : List sp_Bk) : Prop := sl_At f 0 B.1 B.2 ∧ (∀ i u, us[i]? = some u → sl_At f (38 * (i + 1)) u.1 u.2) ∧ (∀ i u, ks[i]? = some u → sl_At f (38 * (i + 9)) u.1 u.2)
def mn_Any (h : ax_H) : Prop := ∃ gl gn gb gk gp gu : Nat → Int32, h 63 = some (.inl (false, 6, gl)) ∧ h 64 = some (.inl (false, 6, gn)) ∧ h 65 = some (.inl (false, 36, gb)) ∧ h 66 = some (.inl (false, 4, gk)) ∧ h 67 = some (.inl (false, 4, gp)) ∧ h 68 = some (.inl (false, 4, gu))
def mt_At (h : ax_H) (n : Nat) (tx : Nat → Nat) : Prop := ∃ f : Nat → Int32, h 70 = some (.inl (true, 200, f)) ∧ ∀ i, i < n → f i = nI (tx i)
def mg_At (h : ax_H) (ss : List sp_rep) : Prop := ∃ gw gf gt gs : Nat → Int32, h 71 = some (.inl (false, 6, gw)) ∧ h 72 = some (.inl (false, 6, gf)) ∧ h 73 = some (.inl (false, 6, gt)) ∧ h 74 = some (.inl (false, 6, gs)) ∧ ∀ i, i < ss.length → gw i = nI (sp_at ss i).1 ∧ gf i = nI (sp_at ss i).2.1 ∧ gt i = nI (sp_at ss i).2.2.1 ∧ gs i = nI (sp_at ss i).2.2.2
def ms_At (h : ax_H) (S : sp_S) : Prop := ∃ (ng nt nw ap bg wr : Int32) (f : Nat → Int32), h 56 = some (.inr (8, mo_f (nI S.2.1.1) (nI S.2.1.2.1) (nI S.2.1.2.2.1) ng nt nw (nI S.2.2.2.1.length) (nI S.2.2.2.2.1.length) (nI S.1.1) ap bg wr (nI S.2.2.2.2.2.length))) ∧ mb_At h S.2.1 ∧ h 69 = some (.inl (false, 456, f)) ∧ ms_sl f S.2.2.1 S.2.2.2.1 S.2.2.2.2.1 ∧ mn_Any h ∧ mt_At h S.1.1 S.1.2 ∧ mg_At h S.2.2.2.2.2
abbrev ms_Po (σ : ax_S) (A : sp_A) : Option Value → ax_S → Prop := fun r τ => r = some (.int A.1) ∧ ms_At τ.1 A.2 ∧ ax_fr 56 19 σ τ
section MQ
variable {σ : ax_S} {S : sp_S}
theorem y_town (hx : ms_At σ.1 S) (hS : sp_Ok S) (v u : Int32) : ax_N mX8_town 8 0 0 [.ref 56, .int v, .int u] σ (ms_Po σ (o_town S v u)) := by
  obtain ⟨ng, nt, nw, ap, bg, wr, f, M_o, hMb, M_slot, hSl, hNew, hTx, hSg⟩ := id hx
  obtain ⟨fl, fn, fb, fk, fp, fu, M_north, M_lean, M_bend, M_sort, M_pace, M_unit, r1, r2, r3⟩ := id hMb
  have hM : ml_At σ.1 S.2.1 f := ⟨⟨ng, nt, nw, _, _, _, ap, bg, wr, _, M_o⟩, hMb, M_slot⟩
  have hb := hS.2.1
  have h6 := hb.2.1
  refine ax_N.of (ls := [some (.ref 56), some (.int v), some (.int u)]) (by decide +kernel) rfl (Nat.le_of_ble_eq_true rfl) ?_
  have NO : ∀ zz, o_town S v u = (-1, S) → ax_J (mX8_town, 8, 0, 0) 0 0 18 zz [] σ (ms_Po σ (o_town S v u)) := by
    intro zz ho
    rw [ho]
    refine ax_iconst (pc' := 19) (v := (-1)) kc_m1 dX8_town_18 rfl ?_
    exact ax_iret dX8_town_19 rfl (Nat.le_of_ble_eq_true rfl) (Nat.le_of_ble_eq_true rfl) (⟨rfl, hx, ax_fr.rf⟩)
  refine ax_aload_n (pc' := 1) rfl dX8_town_0 rfl ?_
  refine ax_iload_n (pc' := 2) rfl dX8_town_1 rfl ?_
  rcases sp_ix_cases v (n := S.2.1.2.1) (by omega) with ⟨t, ht, rfl, e1⟩ | ⟨hv, e1⟩
  · refine ax_callVR (pc' := 5) lv_X8_105 (m_isTownT hM hb ht) M_o rfl rfl (Nat.le_of_ble_eq_true rfl) (Nat.le_of_ble_eq_true rfl) dX8_town_2 rfl ?_
    refine ax_if_eq (pc' := 8) (tgt := 18) dX8_town_5 (by decide) rfl (fun hz => absurd hz (kz_1)) (fun _ => ?_)
    refine ax_iload_n (pc' := 9) rfl dX8_town_8 rfl ?_
    refine ax_i2l (pc' := 10) dX8_town_9 rfl ?_
    refine ax_lconst (pc' := 11) (v := lN 0) rfl dX8_town_10 rfl ?_
    refine ax_lconst (pc' := 12) (v := lN 1) rfl dX8_town_11 rfl ?_
    rcases sp_in_cases u (lo := 0) (hi := 1) (by decide) (by decide) with ⟨i, h1, hi, rfl, e2⟩ | ⟨hu, e2⟩
    · refine ax_callSR (pc' := 15) ls_X8_101 (m_isT (by decide) (by decide) (nI_le h1 (by omega)) (nI_le hi (by decide))) rfl rfl (Nat.le_of_ble_eq_true rfl) (Nat.le_of_ble_eq_true rfl) dX8_town_12 rfl ?_
      refine ax_if_ne (pc' := 18) (tgt := 20) dX8_town_15 (by decide) rfl (fun _ => ?_) (fun hz => absurd hz (kz_1))
      refine ax_iload_n (pc' := 21) rfl dX8_town_20 rfl ?_
      obtain rfl | rfl : i = 0 ∨ i = 1 := by omega
      · refine ax_if_ne (pc' := 24) (tgt := 33) dX8_town_21 (by decide) rfl (fun hz => absurd (kz_0) hz) (fun _ => ?_)
        refine ax_aload_n (pc' := 25) rfl dX8_town_24 rfl ?_
        refine ax_getf (pc' := 28) fl_X8_7 M_o rfl dX8_town_25 rfl ?_
        refine ax_iload_n (pc' := 29) rfl dX8_town_28 rfl ?_
        refine ax_iald (pc' := 30) M_north rfl (by omega) (by first | decide | assumption | omega) dX8_town_29 rfl ?_
        refine ax_topi (r1 t ht).1 ?_
        refine ax_goto (tgt := 38) dX8_town_30 (by decide) ?_
        exact ax_iret dX8_town_38 rfl (Nat.le_of_ble_eq_true rfl) (Nat.le_of_ble_eq_true rfl) (⟨by simp [o_town, e1, e2], hx, ax_fr.rf⟩)
      · refine ax_if_ne (pc' := 24) (tgt := 33) dX8_town_21 (by decide) rfl (fun _ => ?_) (fun hz => absurd hz (kz_1))
        refine ax_aload_n (pc' := 34) rfl dX8_town_33 rfl ?_
        refine ax_iload_n (pc' := 35) rfl dX8_town_34 rfl ?_
        refine ax_callVR (pc' := 38) lv_X8_167 (m_shadow hM hb ht) M_o rfl rfl (Nat.le_of_ble_eq_true rfl) (Nat.le_of_ble_eq_true rfl) dX8_town_35 rfl ?_
        exact ax_iret dX8_town_38 rfl (Nat.le_of_ble_eq_true rfl) (Nat.le_of_ble_eq_true rfl) (⟨by simp [o_town, e1, e2], hx, ax_fr.rf⟩)
    · refine ax_callSR (pc' := 15) ls_X8_101 (m_isF (by decide) (by decide) hu) rfl rfl (Nat.le_of_ble_eq_true rfl) (Nat.le_of_ble_eq_true rfl) dX8_town_12 rfl ?_
      refine ax_if_ne (pc' := 18) (tgt := 20) dX8_town_15 (by decide) rfl (fun hz => absurd (kz_0) hz) (fun _ => ?_)
      exact NO _ (by simp [o_town, e1, e2])
  · refine ax_callVR (pc' := 5) lv_X8_105 (m_isTownF hM hb hv) M_o rfl rfl (Nat.le_of_ble_eq_true rfl) (Nat.le_of_ble_eq_true rfl) dX8_town_2 rfl ?_
    refine ax_if_eq (pc' := 8) (tgt := 18) dX8_town_5 (by decide) rfl (fun _ => ?_) (fun hz => absurd (kz_0) hz)
    exact NO _ (by simp [o_town, e1])
theorem y_between (hx : ms_At σ.1 S) (hS : sp_Ok S) (v u t : Int32) : ax_N mX8_between 8 0 0 [.ref 56, .int v, .int u, .int t] σ (ms_Po σ (o_between S v u t)) := by
  obtain ⟨ng, nt, nw, ap, bg, wr, f, M_o, hMb, M_slot, hSl, hNew, hTx, hSg⟩ := id hx
  obtain ⟨fl, fn, fb, fk, fp, fu, M_north, M_lean, M_bend, M_sort, M_pace, M_unit, r1, r2, r3⟩ := id hMb
  have hM : ml_At σ.1 S.2.1 f := ⟨⟨ng, nt, nw, _, _, _, ap, bg, wr, _, M_o⟩, hMb, M_slot⟩
  have hb := hS.2.1
  have h6 := hb.2.1
  refine ax_N.of (ls := [some (.ref 56), some (.int v), some (.int u), some (.int t)]) (by decide +kernel) rfl (Nat.le_of_ble_eq_true rfl) ?_
  have NO : ∀ zz, o_between S v u t = (-1, S) → ax_J (mX8_between, 8, 0, 0) 0 0 21 zz [] σ (ms_Po σ (o_between S v u t)) := by
    intro zz ho
    rw [ho]
    refine ax_iconst (pc' := 22) (v := (-1)) kc_m1 dX8_between_21 rfl ?_
    exact ax_iret dX8_between_22 rfl (Nat.le_of_ble_eq_true rfl) (Nat.le_of_ble_eq_true rfl) (⟨rfl, hx, ax_fr.rf⟩)
  refine ax_aload_n (pc' := 1) rfl dX8_between_0 rfl ?_
  refine ax_iload_n (pc' := 2) rfl dX8_between_1 rfl ?_
  refine ax_iload_n (pc' := 3) rfl dX8_between_2 rfl ?_
  rcases sp_two_cases v u (n := S.2.1.2.1) (by omega) with ⟨a, c, ha, hc, hac, rfl, rfl, e1⟩ | ⟨hv, e1⟩
  · refine ax_callVR (pc' := 6) lv_X8_171 (m_areTownsT hM hb ha hc hac) M_o rfl rfl (Nat.le_of_ble_eq_true rfl) (Nat.le_of_ble_eq_true rfl) dX8_between_3 rfl ?_
    refine ax_if_eq (pc' := 9) (tgt := 21) dX8_between_6 (by decide) rfl (fun hz => absurd hz (kz_1)) (fun _ => ?_)
    refine ax_iload_n (pc' := 10) rfl dX8_between_9 rfl ?_
    refine ax_i2l (pc' := 11) dX8_between_10 rfl ?_
    refine ax_lconst (pc' := 12) (v := lN 0) rfl dX8_between_11 rfl ?_
    refine ax_ldc2 (pc' := 15) kl_X8_175 dX8_between_12 rfl ?_
    rcases sp_in_cases t (lo := 0) (hi := 2) (by decide) (by decide) with ⟨i, h1, hi, rfl, e2⟩ | ⟨hu, e2⟩
    · refine ax_callSR (pc' := 18) ls_X8_101 (m_isT (by decide) (by decide) (nI_le h1 (by omega)) (nI_le hi (by decide))) rfl rfl (Nat.le_of_ble_eq_true rfl) (Nat.le_of_ble_eq_true rfl) dX8_between_15 rfl ?_
      refine ax_if_ne (pc' := 21) (tgt := 23) dX8_between_18 (by decide) rfl (fun _ => ?_) (fun hz => absurd hz (kz_1))
      refine ax_iload_n (pc' := 24) rfl dX8_between_23 rfl ?_
      obtain rfl | rfl | rfl : i = 0 ∨ i = 1 ∨ i = 2 := by omega
      · refine ax_if_ne (pc' := 27) (tgt := 36) dX8_between_24 (by decide) rfl (fun hz => absurd (kz_0) hz) (fun _ => ?_)
        refine ax_aload_n (pc' := 28) rfl dX8_between_27 rfl ?_
        refine ax_iload_n (pc' := 29) rfl dX8_between_28 rfl ?_
        refine ax_iload_n (pc' := 30) rfl dX8_between_29 rfl ?_
        refine ax_callVR (pc' := 33) lv_X8_164 (m_straight hM hb ha hc) M_o rfl rfl (Nat.le_of_ble_eq_true rfl) (Nat.le_of_ble_eq_true rfl) dX8_between_30 rfl ?_
        refine ax_goto (tgt := 56) dX8_between_33 (by decide) ?_
        exact ax_iret dX8_between_56 rfl (Nat.le_of_ble_eq_true rfl) (Nat.le_of_ble_eq_true rfl) (⟨by simp [o_between, e1, e2], hx, ax_fr.rf⟩)
      · refine ax_if_ne (pc' := 27) (tgt := 36) dX8_between_24 (by decide) rfl (fun _ => ?_) (fun hz => absurd hz (kz_1))
        refine ax_iload_n (pc' := 37) rfl dX8_between_36 rfl ?_
        refine ax_iconst (pc' := 38) (v := (nI 1)) kc_1 dX8_between_37 rfl ?_
        refine ax_icmp_ne (pc' := 41) (tgt := 50) dX8_between_38 (by decide) rfl (fun hz => absurd (rfl) hz) (fun _ => ?_)
        refine ax_aload_n (pc' := 42) rfl dX8_between_41 rfl ?_
        refine ax_iload_n (pc' := 43) rfl dX8_between_42 rfl ?_
        refine ax_iload_n (pc' := 44) rfl dX8_between_43 rfl ?_
        refine ax_callVR (pc' := 47) lv_X8_177 (m_road hM hb ha hc) M_o rfl rfl (Nat.le_of_ble_eq_true rfl) (Nat.le_of_ble_eq_true rfl) dX8_between_44 rfl ?_
        refine ax_goto (tgt := 56) dX8_between_47 (by decide) ?_
        exact ax_iret dX8_between_56 rfl (Nat.le_of_ble_eq_true rfl) (Nat.le_of_ble_eq_true rfl) (⟨by simp [o_between, e1, e2], hx, ax_fr.rf⟩)
      · refine ax_if_ne (pc' := 27) (tgt := 36) dX8_between_24 (by decide) rfl (fun _ => ?_) (fun hz => absurd hz ((by decide)))
        refine ax_iload_n (pc' := 37) rfl dX8_between_36 rfl ?_
        refine ax_iconst (pc' := 38) (v := (nI 1)) kc_1 dX8_between_37 rfl ?_
        refine ax_icmp_ne (pc' := 41) (tgt := 50) dX8_between_38 (by decide) rfl (fun _ => ?_) (fun hz => absurd hz ((by decide)))
        refine ax_aload_n (pc' := 51) rfl dX8_between_50 rfl ?_
        refine ax_iload_n (pc' := 52) rfl dX8_between_51 rfl ?_
        refine ax_iload_n (pc' := 53) rfl dX8_between_52 rfl ?_
        refine ax_callVR (pc' := 56) lv_X8_180 (m_degrees hM hb ha hc) M_o rfl rfl (Nat.le_of_ble_eq_true rfl) (Nat.le_of_ble_eq_true rfl) dX8_between_53 rfl ?_
        exact ax_iret dX8_between_56 rfl (Nat.le_of_ble_eq_true rfl) (Nat.le_of_ble_eq_true rfl) (⟨by simp [o_between, e1, e2], hx, ax_fr.rf⟩)
    · refine ax_callSR (pc' := 18) ls_X8_101 (m_isF (by decide) (by decide) hu) rfl rfl (Nat.le_of_ble_eq_true rfl) (Nat.le_of_ble_eq_true rfl) dX8_between_15 rfl ?_
      refine ax_if_ne (pc' := 21) (tgt := 23) dX8_between_18 (by decide) rfl (fun hz => absurd (kz_0) hz) (fun _ => ?_)
      exact NO _ (by simp [o_between, e1, e2])
  · refine ax_callVR (pc' := 6) lv_X8_171 (m_areTownsF hM hb hv) M_o rfl rfl (Nat.le_of_ble_eq_true rfl) (Nat.le_of_ble_eq_true rfl) dX8_between_3 rfl ?_
    refine ax_if_eq (pc' := 9) (tgt := 21) dX8_between_6 (by decide) rfl (fun _ => ?_) (fun hz => absurd (kz_0) hz)
    exact NO _ (by simp [o_between, e1])
theorem y_walker (hx : ms_At σ.1 S) (hS : sp_Ok S) (v u : Int32) : ax_N mX8_walker 8 0 0 [.ref 56, .int v, .int u] σ (ms_Po σ (o_walker S v u)) := by
  obtain ⟨ng, nt, nw, ap, bg, wr, f, M_o, hMb, M_slot, hSl, hNew, hTx, hSg⟩ := id hx
  obtain ⟨fl, fn, fb, fk, fp, fu, M_north, M_lean, M_bend, M_sort, M_pace, M_unit, r1, r2, r3⟩ := id hMb
  have hM : ml_At σ.1 S.2.1 f := ⟨⟨ng, nt, nw, _, _, _, ap, bg, wr, _, M_o⟩, hMb, M_slot⟩
  have hb := hS.2.1
  have h4 := hb.2.2.1
  refine ax_N.of (ls := [some (.ref 56), some (.int v), some (.int u)]) (by decide +kernel) rfl (Nat.le_of_ble_eq_true rfl) ?_
  have NO : ∀ zz, o_walker S v u = (-1, S) → ax_J (mX8_walker, 8, 0, 0) 0 0 20 zz [] σ (ms_Po σ (o_walker S v u)) := by
    intro zz ho
    rw [ho]
    refine ax_iconst (pc' := 21) (v := (-1)) kc_m1 dX8_walker_20 rfl ?_
    exact ax_iret dX8_walker_21 rfl (Nat.le_of_ble_eq_true rfl) (Nat.le_of_ble_eq_true rfl) (⟨rfl, hx, ax_fr.rf⟩)
  refine ax_aload_n (pc' := 1) rfl dX8_walker_0 rfl ?_
  refine ax_iload_n (pc' := 2) rfl dX8_walker_1 rfl ?_
  rcases sp_ix_cases v (n := S.2.1.2.2.1) (by omega) with ⟨w, hw, rfl, e1⟩ | ⟨hv, e1⟩
  · refine ax_callVR (pc' := 5) lv_X8_183 (m_isWalkerT hM hb hw) M_o rfl rfl (Nat.le_of_ble_eq_true rfl) (Nat.le_of_ble_eq_true rfl) dX8_walker_2 rfl ?_
    refine ax_if_eq (pc' := 8) (tgt := 20) dX8_walker_5 (by decide) rfl (fun hz => absurd hz (kz_1)) (fun _ => ?_)
    refine ax_iload_n (pc' := 9) rfl dX8_walker_8 rfl ?_
    refine ax_i2l (pc' := 10) dX8_walker_9 rfl ?_
    refine ax_lconst (pc' := 11) (v := lN 0) rfl dX8_walker_10 rfl ?_
    refine ax_ldc2 (pc' := 14) kl_X8_175 dX8_walker_11 rfl ?_
    rcases sp_in_cases u (lo := 0) (hi := 2) (by decide) (by decide) with ⟨i, h1, hi, rfl, e2⟩ | ⟨hu, e2⟩
    · refine ax_callSR (pc' := 17) ls_X8_101 (m_isT (by decide) (by decide) (nI_le h1 (by omega)) (nI_le hi (by decide))) rfl rfl (Nat.le_of_ble_eq_true rfl) (Nat.le_of_ble_eq_true rfl) dX8_walker_14 rfl ?_
      refine ax_if_ne (pc' := 20) (tgt := 22) dX8_walker_17 (by decide) rfl (fun _ => ?_) (fun hz => absurd hz (kz_1))
      refine ax_iload_n (pc' := 23) rfl dX8_walker_22 rfl ?_
      obtain rfl | rfl | rfl : i = 0 ∨ i = 1 ∨ i = 2 := by omega
      · refine ax_if_ne (pc' := 26) (tgt := 35) dX8_walker_23 (by decide) rfl (fun hz => absurd (kz_0) hz) (fun _ => ?_)
        refine ax_aload_n (pc' := 27) rfl dX8_walker_26 rfl ?_
        refine ax_getf (pc' := 30) fl_X8_19 M_o rfl dX8_walker_27 rfl ?_
        refine ax_iload_n (pc' := 31) rfl dX8_walker_30 rfl ?_
        refine ax_iald (pc' := 32) M_sort rfl (by omega) (by first | decide | assumption | omega) dX8_walker_31 rfl ?_
        refine ax_topi (r3 w hw).1 ?_
        refine ax_goto (tgt := 55) dX8_walker_32 (by decide) ?_
        exact ax_iret dX8_walker_55 rfl (Nat.le_of_ble_eq_true rfl) (Nat.le_of_ble_eq_true rfl) (⟨by simp [o_walker, e1, e2], hx, ax_fr.rf⟩)
      · refine ax_if_ne (pc' := 26) (tgt := 35) dX8_walker_23 (by decide) rfl (fun _ => ?_) (fun hz => absurd hz (kz_1))
        refine ax_iload_n (pc' := 36) rfl dX8_walker_35 rfl ?_
        refine ax_iconst (pc' := 37) (v := (nI 1)) kc_1 dX8_walker_36 rfl ?_
        refine ax_icmp_ne (pc' := 40) (tgt := 49) dX8_walker_37 (by decide) rfl (fun hz => absurd (rfl) hz) (fun _ => ?_)
        refine ax_aload_n (pc' := 41) rfl dX8_walker_40 rfl ?_
        refine ax_getf (pc' := 44) fl_X8_22 M_o rfl dX8_walker_41 rfl ?_
        refine ax_iload_n (pc' := 45) rfl dX8_walker_44 rfl ?_
        refine ax_iald (pc' := 46) M_pace rfl (by omega) (by first | decide | assumption | omega) dX8_walker_45 rfl ?_
        refine ax_topi (r3 w hw).2.1 ?_
        refine ax_goto (tgt := 55) dX8_walker_46 (by decide) ?_
        exact ax_iret dX8_walker_55 rfl (Nat.le_of_ble_eq_true rfl) (Nat.le_of_ble_eq_true rfl) (⟨by simp [o_walker, e1, e2], hx, ax_fr.rf⟩)
      · refine ax_if_ne (pc' := 26) (tgt := 35) dX8_walker_23 (by decide) rfl (fun _ => ?_) (fun hz => absurd hz ((by decide)))
        refine ax_iload_n (pc' := 36) rfl dX8_walker_35 rfl ?_
        refine ax_iconst (pc' := 37) (v := (nI 1)) kc_1 dX8_walker_36 rfl ?_
        refine ax_icmp_ne (pc' := 40) (tgt := 49) dX8_walker_37 (by decide) rfl (fun _ => ?_) (fun hz => absurd hz ((by decide)))
        refine ax_aload_n (pc' := 50) rfl dX8_walker_49 rfl ?_
        refine ax_getf (pc' := 53) fl_X8_25 M_o rfl dX8_walker_50 rfl ?_
        refine ax_iload_n (pc' := 54) rfl dX8_walker_53 rfl ?_
        refine ax_iald (pc' := 55) M_unit rfl (by omega) (by first | decide | assumption | omega) dX8_walker_54 rfl ?_
        refine ax_topi (r3 w hw).2.2 ?_
        exact ax_iret dX8_walker_55 rfl (Nat.le_of_ble_eq_true rfl) (Nat.le_of_ble_eq_true rfl) (⟨by simp [o_walker, e1, e2], hx, ax_fr.rf⟩)
    · refine ax_callSR (pc' := 17) ls_X8_101 (m_isF (by decide) (by decide) hu) rfl rfl (Nat.le_of_ble_eq_true rfl) (Nat.le_of_ble_eq_true rfl) dX8_walker_14 rfl ?_
      refine ax_if_ne (pc' := 20) (tgt := 22) dX8_walker_17 (by decide) rfl (fun hz => absurd (kz_0) hz) (fun _ => ?_)
      exact NO _ (by simp [o_walker, e1, e2])
  · refine ax_callVR (pc' := 5) lv_X8_183 (m_isWalkerF hM hb hv) M_o rfl rfl (Nat.le_of_ble_eq_true rfl) (Nat.le_of_ble_eq_true rfl) dX8_walker_2 rfl ?_
    refine ax_if_eq (pc' := 8) (tgt := 20) dX8_walker_5 (by decide) rfl (fun _ => ?_) (fun hz => absurd (kz_0) hz)
    exact NO _ (by simp [o_walker, e1])
theorem y_report (hx : ms_At σ.1 S) (hS : sp_Ok S) (v u : Int32) : ax_N mX8_report 8 0 0 [.ref 56, .int v, .int u] σ (ms_Po σ (o_report S v u)) := by
  obtain ⟨ng, nt, nw, ap, bg, wr, f, M_o, hMb, M_slot, hSl, hNew, hTx, hSg⟩ := id hx
  have hM : ml_At σ.1 S.2.1 f := ⟨⟨ng, nt, nw, _, _, _, ap, bg, wr, _, M_o⟩, hMb, M_slot⟩
  have hb := hS.2.1
  have hk := hS.2.2.2.1
  have h9 := hk.1
  have hL := hSl.1
  refine ax_N.of (ls := [some (.ref 56), some (.int v), some (.int u)]) (by decide +kernel) rfl (Nat.le_of_ble_eq_true rfl) ?_
  have NO : ∀ zz, o_report S v u = (-1, S) → ax_J (mX8_report, 8, 0, 0) 0 0 20 zz [] σ (ms_Po σ (o_report S v u)) := by
    intro zz ho
    rw [ho]
    refine ax_iconst (pc' := 21) (v := (-1)) kc_m1 dX8_report_20 rfl ?_
    exact ax_iret dX8_report_21 rfl (Nat.le_of_ble_eq_true rfl) (Nat.le_of_ble_eq_true rfl) (⟨rfl, hx, ax_fr.rf⟩)
  refine ax_aload_n (pc' := 1) rfl dX8_report_0 rfl ?_
  refine ax_iload_n (pc' := 2) rfl dX8_report_1 rfl ?_
  rcases sp_ix_cases v (n := S.2.2.1.1.length) (by omega) with ⟨r, hr, rfl, e1⟩ | ⟨hv, e1⟩
  · obtain ⟨q0, q1, q2, q3⟩ := hL.2.2 r hr
    refine ax_callVR (pc' := 5) lv_X8_203 (m_isReportT hM hL h9 hr) M_o rfl rfl (Nat.le_of_ble_eq_true rfl) (Nat.le_of_ble_eq_true rfl) dX8_report_2 rfl ?_
    refine ax_if_eq (pc' := 8) (tgt := 20) dX8_report_5 (by decide) rfl (fun hz => absurd hz (kz_1)) (fun _ => ?_)
    refine ax_iload_n (pc' := 9) rfl dX8_report_8 rfl ?_
    refine ax_i2l (pc' := 10) dX8_report_9 rfl ?_
    refine ax_lconst (pc' := 11) (v := lN 0) rfl dX8_report_10 rfl ?_
    refine ax_ldc2 (pc' := 14) kl_X8_206 dX8_report_11 rfl ?_
    rcases sp_in_cases u (lo := 0) (hi := 6) (by decide) (by decide) with ⟨i, h1, hi, rfl, e2⟩ | ⟨hu, e2⟩
    · refine ax_callSR (pc' := 17) ls_X8_101 (m_isT (by decide) (by decide) (nI_le h1 (by omega)) (nI_le hi (by decide))) rfl rfl (Nat.le_of_ble_eq_true rfl) (Nat.le_of_ble_eq_true rfl) dX8_report_14 rfl ?_
      refine ax_if_ne (pc' := 20) (tgt := 22) dX8_report_17 (by decide) rfl (fun _ => ?_) (fun hz => absurd hz (kz_1))
      refine ax_iload_n (pc' := 23) rfl dX8_report_22 rfl ?_
      refine ax_iconst (pc' := 24) (v := (nI 4)) kc_4 dX8_report_23 rfl ?_
      have LO : ∀ j, j < 4 → (f (0 + 4 * r + j) = sp_rp S.2.1 (sp_at S.2.2.1.1 r) j) → o_report S (nI r) (nI i) = (sp_rp S.2.1 (sp_at S.2.2.1.1 r) j, S) → i = j → ax_J (mX8_report, 8, 0, 0) 0 0 27 [some (.ref 56), some (.int (nI r)), some (.int (nI i))] [] σ (ms_Po σ (o_report S (nI r) (nI i))) := by
        intro j hj hf ho hij
        subst hij
        rw [ho]
        refine ax_aload_n (pc' := 28) rfl dX8_report_27 rfl ?_
        refine ax_getf (pc' := 31) fl_X8_46 M_o rfl dX8_report_28 rfl ?_
        refine ax_iconst (pc' := 32) (v := (nI 4)) kc_4 dX8_report_31 rfl ?_
        refine ax_iload_n (pc' := 33) rfl dX8_report_32 rfl ?_
        refine ax_imul (pc' := 34) dX8_report_33 rfl ?_
        refine ax_iload_n (pc' := 35) rfl dX8_report_34 rfl ?_
        refine ax_iadd (pc' := 36) dX8_report_35 rfl ?_
        refine ax_topi (v' := nI (0 + 4 * r + i)) (by rw [pk_mul, nI_add, Nat.zero_add]) ?_
        refine ax_iald (pc' := 37) M_slot rfl (by omega) (by first | decide | assumption | omega) dX8_report_36 rfl ?_
        refine ax_topi hf ?_
        refine ax_goto (tgt := 71) dX8_report_37 (by decide) ?_
        exact ax_iret dX8_report_71 rfl (Nat.le_of_ble_eq_true rfl) (Nat.le_of_ble_eq_true rfl) (⟨rfl, hx, ax_fr.rf⟩)
      have ho : o_report S (nI r) (nI i) = (sp_rp S.2.1 (sp_at S.2.2.1.1 r) i, S) := by simp [o_report, e1, e2]
      by_cases i4 : i < 4
      · refine ax_icmp_ge (pc' := 27) (tgt := 40) dX8_report_24 (by decide) rfl (fun hz => absurd hz (nI_ge i4 (by decide))) (fun _ => ?_)
        refine LO i i4 ?_ ho rfl
        obtain rfl | rfl | rfl | rfl : i = 0 ∨ i = 1 ∨ i = 2 ∨ i = 3 := by omega
        · exact q0
        · exact q1
        · exact q2
        · exact q3
      · refine ax_icmp_ge (pc' := 27) (tgt := 40) dX8_report_24 (by decide) rfl (fun _ => ?_) (fun hz => absurd (nI_le (by omega) (by omega)) hz)
        rw [ho]
        refine ax_iload_n (pc' := 41) rfl dX8_report_40 rfl ?_
        refine ax_iconst (pc' := 42) (v := (nI 4)) kc_4 dX8_report_41 rfl ?_
        obtain rfl | rfl | rfl : i = 4 ∨ i = 5 ∨ i = 6 := by omega
        · refine ax_icmp_ne (pc' := 45) (tgt := 54) dX8_report_42 (by decide) rfl (fun hz => absurd (rfl) hz) (fun _ => ?_)
          refine ax_aload_n (pc' := 46) rfl dX8_report_45 rfl ?_
          refine ax_iconst (pc' := 47) (v := (nI 0)) kc_0 dX8_report_46 rfl ?_
          refine ax_iload_n (pc' := 48) rfl dX8_report_47 rfl ?_
          refine ax_callVR (pc' := 51) lv_X8_208 (m_girthBy (p := 0) hM hb hL (by decide) hk hr) M_o rfl rfl (Nat.le_of_ble_eq_true rfl) (Nat.le_of_ble_eq_true rfl) dX8_report_48 rfl ?_
          refine ax_goto (tgt := 71) dX8_report_51 (by decide) ?_
          exact ax_iret dX8_report_71 rfl (Nat.le_of_ble_eq_true rfl) (Nat.le_of_ble_eq_true rfl) (⟨rfl, hx, ax_fr.rf⟩)
        · refine ax_icmp_ne (pc' := 45) (tgt := 54) dX8_report_42 (by decide) rfl (fun _ => ?_) (fun hz => absurd hz ((by decide)))
          refine ax_aload_n (pc' := 55) rfl dX8_report_54 rfl ?_
          refine ax_iconst (pc' := 56) (v := (nI 0)) kc_0 dX8_report_55 rfl ?_
          refine ax_iload_n (pc' := 57) rfl dX8_report_56 rfl ?_
          refine ax_iload_n (pc' := 58) rfl dX8_report_57 rfl ?_
          refine ax_iconst (pc' := 59) (v := (nI 5)) kc_5 dX8_report_58 rfl ?_
          refine ax_icmp_ne (pc' := 62) (tgt := 66) dX8_report_59 (by decide) rfl (fun hz => absurd (rfl) hz) (fun _ => ?_)
          refine ax_iconst (pc' := 63) (v := (nI 2)) kc_2 dX8_report_62 rfl ?_
          refine ax_goto (tgt := 68) dX8_report_63 (by decide) ?_
          refine ax_callVR (pc' := 71) lv_X8_211 (m_least (p := 0) hM hb hL (by decide) hk hr) M_o rfl rfl (Nat.le_of_ble_eq_true rfl) (Nat.le_of_ble_eq_true rfl) dX8_report_68 rfl ?_
          exact ax_iret dX8_report_71 rfl (Nat.le_of_ble_eq_true rfl) (Nat.le_of_ble_eq_true rfl) (⟨rfl, hx, ax_fr.rf⟩)
        · refine ax_icmp_ne (pc' := 45) (tgt := 54) dX8_report_42 (by decide) rfl (fun _ => ?_) (fun hz => absurd hz ((by decide)))
          refine ax_aload_n (pc' := 55) rfl dX8_report_54 rfl ?_
          refine ax_iconst (pc' := 56) (v := (nI 0)) kc_0 dX8_report_55 rfl ?_
          refine ax_iload_n (pc' := 57) rfl dX8_report_56 rfl ?_
          refine ax_iload_n (pc' := 58) rfl dX8_report_57 rfl ?_
          refine ax_iconst (pc' := 59) (v := (nI 5)) kc_5 dX8_report_58 rfl ?_
          refine ax_icmp_ne (pc' := 62) (tgt := 66) dX8_report_59 (by decide) rfl (fun _ => ?_) (fun hz => absurd hz ((by decide)))
          refine ax_bipush (pc' := 68) (v := (-2)) kb_m2 dX8_report_66 rfl ?_
          refine ax_callVR (pc' := 71) lv_X8_211 (m_most (p := 0) hM hb hL (by decide) hk hr) M_o rfl rfl (Nat.le_of_ble_eq_true rfl) (Nat.le_of_ble_eq_true rfl) dX8_report_68 rfl ?_
          exact ax_iret dX8_report_71 rfl (Nat.le_of_ble_eq_true rfl) (Nat.le_of_ble_eq_true rfl) (⟨rfl, hx, ax_fr.rf⟩)
    · refine ax_callSR (pc' := 17) ls_X8_101 (m_isF (by decide) (by decide) hu) rfl rfl (Nat.le_of_ble_eq_true rfl) (Nat.le_of_ble_eq_true rfl) dX8_report_14 rfl ?_
      refine ax_if_ne (pc' := 20) (tgt := 22) dX8_report_17 (by decide) rfl (fun hz => absurd (kz_0) hz) (fun _ => ?_)
      exact NO _ (by simp [o_report, e1, e2])
  · refine ax_callVR (pc' := 5) lv_X8_203 (m_isReportF hM hL h9 hv) M_o rfl rfl (Nat.le_of_ble_eq_true rfl) (Nat.le_of_ble_eq_true rfl) dX8_report_2 rfl ?_
    refine ax_if_eq (pc' := 8) (tgt := 20) dX8_report_5 (by decide) rfl (fun _ => ?_) (fun hz => absurd (kz_0) hz)
    exact NO _ (by simp [o_report, e1])
theorem m_mean {f : Nat → Int32} (hM : ml_At σ.1 S.2.1 f) (hS : sp_Ok S) (hL : sl_At f 0 S.2.2.1.1 S.2.2.1.2) : ax_R mX8_mean 6 [.ref 56] σ (.int (sp_en (sp_mn S))) := by
  have M_o := hM.1.choose_spec.choose_spec.choose_spec.choose_spec.choose_spec.choose_spec.choose_spec.choose_spec.choose_spec.choose_spec
  refine ax_N.of (ls := [some (.ref 56)]) (by decide +kernel) rfl (Nat.le_of_ble_eq_true rfl) ?_
  refine ax_aload_n (pc' := 1) rfl dX8_mean_0 rfl ?_
  refine ax_iconst (pc' := 2) (v := (nI 0)) kc_0 dX8_mean_1 rfl ?_
  refine ax_sipush (pc' := 5) (v := (nI 511)) ks_511 dX8_mean_2 rfl ?_
  refine ax_callVR (pc' := 8) lv_X8_233 (m_meanOf (p := 0) hM hS.2.1 hL (by decide) hS.2.2.2.1 (by decide)) M_o rfl rfl (Nat.le_of_ble_eq_true rfl) (Nat.le_of_ble_eq_true rfl) dX8_mean_5 rfl ?_
  exact ax_iret dX8_mean_8 rfl (Nat.le_of_ble_eq_true rfl) (Nat.le_of_ble_eq_true rfl) (⟨rfl, rfl⟩)
theorem y_mean (hx : ms_At σ.1 S) (hS : sp_Ok S) : ax_N mX8_mean 8 0 0 [.ref 56] σ (ms_Po σ (o_mean S)) := by
  obtain ⟨ng, nt, nw, ap, bg, wr, f, M_o, hMb, M_slot, hSl, hNew, hTx, hSg⟩ := id hx
  have hM : ml_At σ.1 S.2.1 f := ⟨⟨ng, nt, nw, _, _, _, ap, bg, wr, _, M_o⟩, hMb, M_slot⟩
  refine ax_N.of (ls := [some (.ref 56)]) (by decide +kernel) rfl (Nat.le_of_ble_eq_true rfl) ?_
  refine ax_aload_n (pc' := 1) rfl dX8_mean_0 rfl ?_
  refine ax_iconst (pc' := 2) (v := (nI 0)) kc_0 dX8_mean_1 rfl ?_
  refine ax_sipush (pc' := 5) (v := (nI 511)) ks_511 dX8_mean_2 rfl ?_
  refine ax_callVR (pc' := 8) lv_X8_233 (m_meanOf (p := 0) hM hS.2.1 hSl.1 (by decide) hS.2.2.2.1 (by decide)) M_o rfl rfl (Nat.le_of_ble_eq_true rfl) (Nat.le_of_ble_eq_true rfl) dX8_mean_5 rfl ?_
  exact ax_iret dX8_mean_8 rfl (Nat.le_of_ble_eq_true rfl) (Nat.le_of_ble_eq_true rfl) (⟨rfl, hx, ax_fr.rf⟩)
def ml_a : Option (Nat × Nat) → Int32
  | none => -1
  | some q => nI q.1
def ml_b : Option (Nat × Nat) → Int32
  | none => nI 1999999999
  | some q => nI q.2
def ml_c : Option (Nat × Nat) → Int32
  | none => nI 0
  | some _ => nI 1
theorem y_all (hx : ms_At σ.1 S) (hS : sp_Ok S) (v : Int32) : ax_N mX8_all 8 0 0 [.ref 56, .int v] σ (ms_Po σ (o_all S v)) := by
  obtain ⟨ng, nt, nw, ap, bg, wr, f, M_o, hMb, M_slot, hSl, hNew, hTx, hSg⟩ := id hx
  have hM : ml_At σ.1 S.2.1 f := ⟨⟨ng, nt, nw, _, _, _, ap, bg, wr, _, M_o⟩, hMb, M_slot⟩
  have hb := hS.2.1
  have hk := hS.2.2.2.1
  have h9 := hk.1
  have hL := hSl.1
  obtain ⟨l1, l2, l3⟩ := id hL
  refine ax_N.of (ls := [some (.ref 56), some (.int v), none, none, none, none, none]) (by decide +kernel) rfl (Nat.le_of_ble_eq_true rfl) ?_
  refine ax_iload_n (pc' := 1) rfl dX8_all_0 rfl ?_
  refine ax_i2l (pc' := 2) dX8_all_1 rfl ?_
  refine ax_lconst (pc' := 3) (v := lN 0) rfl dX8_all_2 rfl ?_
  refine ax_ldc2 (pc' := 6) kl_X8_175 dX8_all_3 rfl ?_
  rcases sp_in_cases v (lo := 0) (hi := 2) (by decide) (by decide) with ⟨i, h1, hi, rfl, e2⟩ | ⟨hu, e2⟩
  · refine ax_callSR (pc' := 9) ls_X8_101 (m_isT (by decide) (by decide) (nI_le h1 (by omega)) (nI_le hi (by decide))) rfl rfl (Nat.le_of_ble_eq_true rfl) (Nat.le_of_ble_eq_true rfl) dX8_all_6 rfl ?_
    refine ax_if_ne (pc' := 12) (tgt := 14) dX8_all_9 (by decide) rfl (fun _ => ?_) (fun hz => absurd hz (kz_1))
    refine ax_iconst (pc' := 15) (v := (-1)) kc_m1 dX8_all_14 rfl ?_
    refine ax_istore_n (pc' := 16) rfl (Nat.le_of_ble_eq_true rfl) dX8_all_15 rfl ?_
    refine ax_ldc (pc' := 18) ki_X8_236 dX8_all_16 rfl ?_
    refine ax_istore_n (pc' := 19) rfl (Nat.le_of_ble_eq_true rfl) dX8_all_18 rfl ?_
    refine ax_iconst (pc' := 20) (v := (nI 0)) kc_0 dX8_all_19 rfl ?_
    refine ax_istore (pc' := 22) rfl (Nat.le_of_ble_eq_true rfl) dX8_all_20 rfl ?_
    refine ax_iconst (pc' := 23) (v := (nI 0)) kc_0 dX8_all_22 rfl ?_
    refine ax_istore (pc' := 25) rfl (Nat.le_of_ble_eq_true rfl) dX8_all_23 rfl ?_
    have K : ∀ m j (z6 : Option Value), j + m = S.2.2.1.1.length → ax_J (mX8_all, 8, 0, 0) 0 0 25 [some (.ref 56), some (.int (nI i)), some (.int (ml_a (sp_al S.2.1 S.2.2.1.1 j))), some (.int (ml_b (sp_al S.2.1 S.2.2.1.1 j))), some (.int (ml_c (sp_al S.2.1 S.2.2.1.1 j))), some (.int (nI j)), z6] [] σ (ms_Po σ (o_all S (nI i))) := by
      intro m
      induction m with
      | zero =>
        intro j z6 hj
        have hj : j = S.2.2.1.1.length := hj
        subst hj
        have hle := fun q => sp_al_le hb hk (Nat.le_refl S.2.2.1.1.length) (q := q)
        obtain ⟨o, ho⟩ : ∃ o, o = sp_al S.2.1 S.2.2.1.1 S.2.2.1.1.length := ⟨_, rfl⟩
        rw [← ho] at hle ⊢
        refine ax_iload (pc' := 27) rfl dX8_all_25 rfl ?_
        refine ax_aload_n (pc' := 28) rfl dX8_all_27 rfl ?_
        refine ax_getf (pc' := 31) fl_X8_46 M_o rfl dX8_all_28 rfl ?_
        refine ax_bipush (pc' := 33) (v := (nI 36)) kb_36 dX8_all_31 rfl ?_
        refine ax_iald (pc' := 34) M_slot rfl (by omega) (by first | decide | assumption | omega) dX8_all_33 rfl ?_
        refine ax_topi l1 ?_
        refine ax_icmp_ge (pc' := 37) (tgt := 82) dX8_all_34 (by decide) rfl (fun _ => ?_) (fun hz => absurd (nI_le (Nat.le_refl _) (by omega)) hz)
        refine ax_iload (pc' := 84) rfl dX8_all_82 rfl ?_
        cases o with
        | none =>
          refine ax_if_ne (pc' := 87) (tgt := 92) dX8_all_84 (by decide) rfl (fun hz => absurd (kz_0) hz) (fun _ => ?_)
          refine ax_bipush (pc' := 89) (v := (-4)) kb_m4 dX8_all_87 rfl ?_
          refine ax_goto (tgt := 119) dX8_all_89 (by decide) ?_
          exact ax_iret dX8_all_119 rfl (Nat.le_of_ble_eq_true rfl) (Nat.le_of_ble_eq_true rfl) (⟨by simp [o_all, e2, ← ho], hx, ax_fr.rf⟩)
        | some q =>
          obtain ⟨g1, g2⟩ := hle q rfl
          refine ax_if_ne (pc' := 87) (tgt := 92) dX8_all_84 (by decide) rfl (fun _ => ?_) (fun hz => absurd hz (kz_1))
          refine ax_iload_n (pc' := 93) rfl dX8_all_92 rfl ?_
          obtain rfl | rfl | rfl : i = 0 ∨ i = 1 ∨ i = 2 := by omega
          · refine ax_if_ne (pc' := 96) (tgt := 100) dX8_all_93 (by decide) rfl (fun hz => absurd (kz_0) hz) (fun _ => ?_)
            refine ax_iload_n (pc' := 97) rfl dX8_all_96 rfl ?_
            refine ax_goto (tgt := 119) dX8_all_97 (by decide) ?_
            exact ax_iret dX8_all_119 rfl (Nat.le_of_ble_eq_true rfl) (Nat.le_of_ble_eq_true rfl) (⟨by simp [o_all, e2, ← ho, ml_a], hx, ax_fr.rf⟩)
          · refine ax_if_ne (pc' := 96) (tgt := 100) dX8_all_93 (by decide) rfl (fun _ => ?_) (fun hz => absurd hz (kz_1))
            refine ax_iload_n (pc' := 101) rfl dX8_all_100 rfl ?_
            refine ax_iconst (pc' := 102) (v := (nI 1)) kc_1 dX8_all_101 rfl ?_
            refine ax_icmp_ne (pc' := 105) (tgt := 109) dX8_all_102 (by decide) rfl (fun hz => absurd (rfl) hz) (fun _ => ?_)
            refine ax_iload_n (pc' := 106) rfl dX8_all_105 rfl ?_
            refine ax_goto (tgt := 119) dX8_all_106 (by decide) ?_
            exact ax_iret dX8_all_119 rfl (Nat.le_of_ble_eq_true rfl) (Nat.le_of_ble_eq_true rfl) (⟨by simp [o_all, e2, ← ho, ml_b], hx, ax_fr.rf⟩)
          · refine ax_if_ne (pc' := 96) (tgt := 100) dX8_all_93 (by decide) rfl (fun _ => ?_) (fun hz => absurd hz ((by decide)))
            refine ax_iload_n (pc' := 101) rfl dX8_all_100 rfl ?_
            refine ax_iconst (pc' := 102) (v := (nI 1)) kc_1 dX8_all_101 rfl ?_
            refine ax_icmp_ne (pc' := 105) (tgt := 109) dX8_all_102 (by decide) rfl (fun _ => ?_) (fun hz => absurd hz ((by decide)))
            refine ax_iload_n (pc' := 110) rfl dX8_all_109 rfl ?_
            refine ax_iload_n (pc' := 111) rfl dX8_all_110 rfl ?_
            by_cases hq : q.2 < q.1
            · refine ax_icmp_le (pc' := 114) (tgt := 118) dX8_all_111 (by decide) rfl (fun hz => absurd hz (nI_ge hq (by omega))) (fun _ => ?_)
              refine ax_iconst (pc' := 115) (v := (nI 1)) kc_1 dX8_all_114 rfl ?_
              refine ax_goto (tgt := 119) dX8_all_115 (by decide) ?_
              exact ax_iret dX8_all_119 rfl (Nat.le_of_ble_eq_true rfl) (Nat.le_of_ble_eq_true rfl) (⟨by simp [o_all, e2, ← ho, hq], hx, ax_fr.rf⟩)
            · refine ax_icmp_le (pc' := 114) (tgt := 118) dX8_all_111 (by decide) rfl (fun _ => ?_) (fun hz => absurd (nI_le (by omega) (by omega)) hz)
              refine ax_iconst (pc' := 119) (v := (nI 0)) kc_0 dX8_all_118 rfl ?_
              exact ax_iret dX8_all_119 rfl (Nat.le_of_ble_eq_true rfl) (Nat.le_of_ble_eq_true rfl) (⟨by simp [o_all, e2, ← ho, hq], hx, ax_fr.rf⟩)
      | succ m ih =>
        intro j z6 hj
        have hjl : j < S.2.2.1.1.length := by omega
        obtain ⟨-, -, -, q3⟩ := hk.2 j hjl
        have hle := fun q => sp_al_le hb hk (k := j) (by omega) (q := q)
        have u9 := (hb.2.2.2.2.2 (sp_at S.2.2.1.1 j).1).2.2.2.2
        refine ax_iload (pc' := 27) rfl dX8_all_25 rfl ?_
        refine ax_aload_n (pc' := 28) rfl dX8_all_27 rfl ?_
        refine ax_getf (pc' := 31) fl_X8_46 M_o rfl dX8_all_28 rfl ?_
        refine ax_bipush (pc' := 33) (v := (nI 36)) kb_36 dX8_all_31 rfl ?_
        refine ax_iald (pc' := 34) M_slot rfl (by omega) (by first | decide | assumption | omega) dX8_all_33 rfl ?_
        refine ax_topi l1 ?_
        refine ax_icmp_ge (pc' := 37) (tgt := 82) dX8_all_34 (by decide) rfl (fun hz => absurd hz (nI_ge hjl (by omega))) (fun _ => ?_)
        refine ax_aload_n (pc' := 38) rfl dX8_all_37 rfl ?_
        refine ax_iconst (pc' := 39) (v := (nI 0)) kc_0 dX8_all_38 rfl ?_
        refine ax_iload (pc' := 41) rfl dX8_all_39 rfl ?_
        refine ax_bipush (pc' := 43) (v := (-2)) kb_m2 dX8_all_41 rfl ?_
        refine ax_callVR (pc' := 46) lv_X8_211 (m_most (p := 0) hM hb hL (by decide) hk hjl) M_o rfl rfl (Nat.le_of_ble_eq_true rfl) (Nat.le_of_ble_eq_true rfl) dX8_all_43 rfl ?_
        refine ax_istore (pc' := 48) rfl (Nat.le_of_ble_eq_true rfl) dX8_all_46 rfl ?_
        refine ax_iload (pc' := 50) rfl dX8_all_48 rfl ?_
        cases hms : sp_ms S.2.1 (sp_at S.2.2.1.1 j) with
        | none =>
          refine ax_if_lt (pc' := 53) (tgt := 76) dX8_all_50 (by decide) rfl (fun _ => ?_) (fun hz => absurd ((by decide)) hz)
          refine ax_iinc1 (pc' := 79) rfl rfl (Nat.le_of_ble_eq_true rfl) dX8_all_76 rfl ?_
          refine ax_goto (tgt := 25) dX8_all_79 (by decide) ?_
          have := ih (j + 1) (some (.int (sp_en none))) (by omega)
          simp only [sp_al, hms] at this
          exact this
        | some hh =>
          have hh9 := sp_go_le q3 u9 hms
          have hls := sp_ls_some S.2.1 (sp_at S.2.2.1.1 j)
          obtain ⟨lo, hlo⟩ : ∃ lo, lo = (sp_ls S.2.1 (sp_at S.2.2.1.1 j)).getD 0 := ⟨_, rfl⟩
          rw [← hlo] at hls
          have hl9 := sp_go_le q3 u9 hls
          refine ax_if_lt (pc' := 53) (tgt := 76) dX8_all_50 (by decide) rfl (fun hz => absurd hz (nI_pos (by omega))) (fun _ => ?_)
          refine ax_iconst (pc' := 54) (v := (nI 1)) kc_1 dX8_all_53 rfl ?_
          refine ax_istore (pc' := 56) rfl (Nat.le_of_ble_eq_true rfl) dX8_all_54 rfl ?_
          refine ax_iload_n (pc' := 57) rfl dX8_all_56 rfl ?_
          refine ax_aload_n (pc' := 58) rfl dX8_all_57 rfl ?_
          refine ax_iconst (pc' := 59) (v := (nI 0)) kc_0 dX8_all_58 rfl ?_
          refine ax_iload (pc' := 61) rfl dX8_all_59 rfl ?_
          refine ax_iconst (pc' := 62) (v := (nI 2)) kc_2 dX8_all_61 rfl ?_
          refine ax_callVR (pc' := 65) lv_X8_211 (m_least (p := 0) hM hb hL (by decide) hk hjl) M_o rfl rfl (Nat.le_of_ble_eq_true rfl) (Nat.le_of_ble_eq_true rfl) dX8_all_62 rfl ?_
          rw [hls]
          have T : ∀ o, o = sp_al S.2.1 S.2.2.1.1 j → ax_J (mX8_all, 8, 0, 0) 0 0 65 [some (.ref 56), some (.int (nI i)), some (.int (ml_a o)), some (.int (ml_b o)), some (.int (nI 1)), some (.int (nI j)), some (.int (nI hh))] [.int (nI lo), .int (ml_a o)] σ (ms_Po σ (o_all S (nI i))) := by
            intro o ho
            cases o with
            | none =>
              refine ax_callSR (pc' := 68) ls_X8_158 (m_largerN (by omega)) rfl rfl (Nat.le_of_ble_eq_true rfl) (Nat.le_of_ble_eq_true rfl) dX8_all_65 rfl ?_
              refine ax_istore_n (pc' := 69) rfl (Nat.le_of_ble_eq_true rfl) dX8_all_68 rfl ?_
              refine ax_iload_n (pc' := 70) rfl dX8_all_69 rfl ?_
              refine ax_iload (pc' := 72) rfl dX8_all_70 rfl ?_
              refine ax_callSR (pc' := 75) ls_X8_237 (m_smaller (by decide) (by omega)) rfl rfl (Nat.le_of_ble_eq_true rfl) (Nat.le_of_ble_eq_true rfl) dX8_all_72 rfl ?_
              refine ax_istore_n (pc' := 76) rfl (Nat.le_of_ble_eq_true rfl) dX8_all_75 rfl ?_
              refine ax_iinc1 (pc' := 79) rfl rfl (Nat.le_of_ble_eq_true rfl) dX8_all_76 rfl ?_
              refine ax_goto (tgt := 25) dX8_all_79 (by decide) ?_
              have := ih (j + 1) (some (.int (nI hh))) (by omega)
              simp only [sp_al, hms, ← ho, ← hlo] at this
              rw [show min 1999999999 hh = hh by omega]
              exact this
            | some q =>
              obtain ⟨g1, g2⟩ := hle q ho.symm
              refine ax_callSR (pc' := 68) ls_X8_158 (m_larger (by omega) (by omega)) rfl rfl (Nat.le_of_ble_eq_true rfl) (Nat.le_of_ble_eq_true rfl) dX8_all_65 rfl ?_
              refine ax_istore_n (pc' := 69) rfl (Nat.le_of_ble_eq_true rfl) dX8_all_68 rfl ?_
              refine ax_iload_n (pc' := 70) rfl dX8_all_69 rfl ?_
              refine ax_iload (pc' := 72) rfl dX8_all_70 rfl ?_
              refine ax_callSR (pc' := 75) ls_X8_237 (m_smaller (by omega) (by omega)) rfl rfl (Nat.le_of_ble_eq_true rfl) (Nat.le_of_ble_eq_true rfl) dX8_all_72 rfl ?_
              refine ax_istore_n (pc' := 76) rfl (Nat.le_of_ble_eq_true rfl) dX8_all_75 rfl ?_
              refine ax_iinc1 (pc' := 79) rfl rfl (Nat.le_of_ble_eq_true rfl) dX8_all_76 rfl ?_
              refine ax_goto (tgt := 25) dX8_all_79 (by decide) ?_
              have := ih (j + 1) (some (.int (nI hh))) (by omega)
              simp only [sp_al, hms, ← ho, ← hlo] at this
              exact this
          exact T _ rfl
    exact K S.2.2.1.1.length 0 none (Nat.zero_add _)
  · refine ax_callSR (pc' := 9) ls_X8_101 (m_isF (by decide) (by decide) hu) rfl rfl (Nat.le_of_ble_eq_true rfl) (Nat.le_of_ble_eq_true rfl) dX8_all_6 rfl ?_
    refine ax_if_ne (pc' := 12) (tgt := 14) dX8_all_9 (by decide) rfl (fun hz => absurd (kz_0) hz) (fun _ => ?_)
    refine ax_iconst (pc' := 13) (v := (-1)) kc_m1 dX8_all_12 rfl ?_
    exact ax_iret dX8_all_13 rfl (Nat.le_of_ble_eq_true rfl) (Nat.le_of_ble_eq_true rfl) (⟨by simp [o_all, e2], hx, ax_fr.rf⟩)
theorem y_next (hx : ms_At σ.1 S) (hS : sp_Ok S) (v u : Int32) : ax_N mX8_next 8 0 0 [.ref 56, .int v, .int u] σ (ms_Po σ (o_next S v u)) := by
  obtain ⟨ng, nt, nw, ap, bg, wr, f, M_o, hMb, M_slot, hSl, hNew, hTx, hSg⟩ := id hx
  obtain ⟨fl, fn, fb, fk, fp, fu, M_north, M_lean, M_bend, M_sort, M_pace, M_unit, r1, r2, r3⟩ := id hMb
  have hM : ml_At σ.1 S.2.1 f := ⟨⟨ng, nt, nw, _, _, _, ap, bg, wr, _, M_o⟩, hMb, M_slot⟩
  have hb := hS.2.1
  have hk := hS.2.2.2.1
  have h6 := hb.2.1
  have h4 := hb.2.2.1
  have hL := hSl.1
  refine ax_N.of (ls := [some (.ref 56), some (.int v), some (.int u), none, none, none, none, none, none, none, none]) (by decide +kernel) rfl (Nat.le_of_ble_eq_true rfl) ?_
  have NO : ∀ zz, o_next S v u = (-1, S) → ax_J (mX8_next, 8, 0, 0) 0 0 18 zz [] σ (ms_Po σ (o_next S v u)) := by
    intro zz ho
    rw [ho]
    refine ax_iconst (pc' := 19) (v := (-1)) kc_m1 dX8_next_18 rfl ?_
    exact ax_iret dX8_next_19 rfl (Nat.le_of_ble_eq_true rfl) (Nat.le_of_ble_eq_true rfl) (⟨rfl, hx, ax_fr.rf⟩)
  refine ax_aload_n (pc' := 1) rfl dX8_next_0 rfl ?_
  refine ax_iload_n (pc' := 2) rfl dX8_next_1 rfl ?_
  rcases sp_ix_cases v (n := S.2.1.2.2.1) (by omega) with ⟨w, hw, rfl, e1⟩ | ⟨hv, e1⟩
  · refine ax_callVR (pc' := 5) lv_X8_183 (m_isWalkerT hM hb hw) M_o rfl rfl (Nat.le_of_ble_eq_true rfl) (Nat.le_of_ble_eq_true rfl) dX8_next_2 rfl ?_
    refine ax_if_eq (pc' := 8) (tgt := 18) dX8_next_5 (by decide) rfl (fun hz => absurd hz (kz_1)) (fun _ => ?_)
    refine ax_iload_n (pc' := 9) rfl dX8_next_8 rfl ?_
    refine ax_i2l (pc' := 10) dX8_next_9 rfl ?_
    refine ax_lconst (pc' := 11) (v := lN 0) rfl dX8_next_10 rfl ?_
    refine ax_lconst (pc' := 12) (v := lN 1) rfl dX8_next_11 rfl ?_
    rcases sp_in_cases u (lo := 0) (hi := 1) (by decide) (by decide) with ⟨i, h1, hi, rfl, e2⟩ | ⟨hu, e2⟩
    · refine ax_callSR (pc' := 15) ls_X8_101 (m_isT (by decide) (by decide) (nI_le h1 (by omega)) (nI_le hi (by decide))) rfl rfl (Nat.le_of_ble_eq_true rfl) (Nat.le_of_ble_eq_true rfl) dX8_next_12 rfl ?_
      refine ax_if_ne (pc' := 18) (tgt := 20) dX8_next_15 (by decide) rfl (fun _ => ?_) (fun hz => absurd hz (kz_1))
      refine ax_bipush (pc' := 22) (v := (-4)) kb_m4 dX8_next_20 rfl ?_
      refine ax_istore_n (pc' := 23) rfl (Nat.le_of_ble_eq_true rfl) dX8_next_22 rfl ?_
      refine ax_bipush (pc' := 25) (v := (-4)) kb_m4 dX8_next_23 rfl ?_
      refine ax_istore (pc' := 27) rfl (Nat.le_of_ble_eq_true rfl) dX8_next_25 rfl ?_
      refine ax_iconst (pc' := 28) (v := (nI 0)) kc_0 dX8_next_27 rfl ?_
      refine ax_istore (pc' := 30) rfl (Nat.le_of_ble_eq_true rfl) dX8_next_28 rfl ?_
      obtain ⟨k1, k2, k3, k4, k5⟩ := hb.2.2.2.2.2 w
      obtain ⟨s1, s2, s3⟩ := r3 w hw
      have K : ∀ m a (z6 z7 z8 z9 z10 : Option Value), a + m = S.2.1.2.1 → ax_J (mX8_next, 8, 0, 0) 0 0 30 [some (.ref 56), some (.int (nI w)), some (.int (nI i)), some (.int (sp_o1 (sp_no S.2.1 S.2.2.1.1 w a))), some (.int (sp_o2 (sp_no S.2.1 S.2.2.1.1 w a))), some (.int (nI a)), z6, z7, z8, z9, z10] [] σ (ms_Po σ (o_next S (nI w) (nI i))) := by
        intro m
        induction m with
        | zero =>
          intro a z6 z7 z8 z9 z10 ha
          have ha : a = S.2.1.2.1 := ha
          subst ha
          refine ax_iload (pc' := 32) rfl dX8_next_30 rfl ?_
          refine ax_aload_n (pc' := 33) rfl dX8_next_32 rfl ?_
          refine ax_getf (pc' := 36) fl_X8_95 M_o rfl dX8_next_33 rfl ?_
          refine ax_icmp_ge (pc' := 39) (tgt := 201) dX8_next_36 (by decide) rfl (fun _ => ?_) (fun hz => absurd (nI_le (Nat.le_refl _) (by omega)) hz)
          refine ax_iload_n (pc' := 202) rfl dX8_next_201 rfl ?_
          obtain rfl | rfl : i = 0 ∨ i = 1 := by omega
          · refine ax_if_ne (pc' := 205) (tgt := 209) dX8_next_202 (by decide) rfl (fun hz => absurd (kz_0) hz) (fun _ => ?_)
            refine ax_iload_n (pc' := 206) rfl dX8_next_205 rfl ?_
            refine ax_goto (tgt := 211) dX8_next_206 (by decide) ?_
            exact ax_iret dX8_next_211 rfl (Nat.le_of_ble_eq_true rfl) (Nat.le_of_ble_eq_true rfl) (⟨by simp [o_next, e1, e2], hx, ax_fr.rf⟩)
          · refine ax_if_ne (pc' := 205) (tgt := 209) dX8_next_202 (by decide) rfl (fun _ => ?_) (fun hz => absurd hz (kz_1))
            refine ax_iload (pc' := 211) rfl dX8_next_209 rfl ?_
            exact ax_iret dX8_next_211 rfl (Nat.le_of_ble_eq_true rfl) (Nat.le_of_ble_eq_true rfl) (⟨by simp [o_next, e1, e2], hx, ax_fr.rf⟩)
        | succ m ih =>
          intro a z6 z7 z8 z9 z10 ha
          have hal : a < S.2.1.2.1 := by omega
          have hno := sp_no_ok hb hk (w := w) (i := a) (by omega)
          refine ax_iload (pc' := 32) rfl dX8_next_30 rfl ?_
          refine ax_aload_n (pc' := 33) rfl dX8_next_32 rfl ?_
          refine ax_getf (pc' := 36) fl_X8_95 M_o rfl dX8_next_33 rfl ?_
          refine ax_icmp_ge (pc' := 39) (tgt := 201) dX8_next_36 (by decide) rfl (fun hz => absurd hz (nI_ge hal (by omega))) (fun _ => ?_)
          refine ax_iload (pc' := 41) rfl dX8_next_39 rfl ?_
          refine ax_iconst (pc' := 42) (v := (nI 1)) kc_1 dX8_next_41 rfl ?_
          refine ax_iadd (pc' := 43) dX8_next_42 rfl ?_
          refine ax_topi (nI_add a 1) ?_
          refine ax_istore (pc' := 45) rfl (Nat.le_of_ble_eq_true rfl) dX8_next_43 rfl ?_
          have K2 : ∀ m2 c (z7 z8 z9 z10 : Option Value), c + m2 = S.2.1.2.1 → a < c → ax_J (mX8_next, 8, 0, 0) 0 0 45 [some (.ref 56), some (.int (nI w)), some (.int (nI i)), some (.int (sp_o1 (sp_ni S.2.1 S.2.2.1.1 w a (sp_no S.2.1 S.2.2.1.1 w a) c))), some (.int (sp_o2 (sp_ni S.2.1 S.2.2.1.1 w a (sp_no S.2.1 S.2.2.1.1 w a) c))), some (.int (nI a)), some (.int (nI c)), z7, z8, z9, z10] [] σ (ms_Po σ (o_next S (nI w) (nI i))) := by
            intro m2
            induction m2 with
            | zero =>
              intro c z7 z8 z9 z10 hc hac
              have hc : c = S.2.1.2.1 := hc
              refine ax_iload (pc' := 47) rfl dX8_next_45 rfl ?_
              refine ax_aload_n (pc' := 48) rfl dX8_next_47 rfl ?_
              refine ax_getf (pc' := 51) fl_X8_95 M_o rfl dX8_next_48 rfl ?_
              refine ax_icmp_ge (pc' := 54) (tgt := 195) dX8_next_51 (by decide) rfl (fun _ => ?_) (fun hz => absurd (nI_le (by omega) (by omega)) hz)
              refine ax_iinc1 (pc' := 198) rfl rfl (Nat.le_of_ble_eq_true rfl) dX8_next_195 rfl ?_
              refine ax_goto (tgt := 30) dX8_next_198 (by decide) ?_
              have := ih (a + 1) (some (.int (nI c))) z7 z8 z9 z10 (by omega)
              rw [sp_no, ← hc] at this
              exact this
            | succ m2 ih2 =>
              intro c z7 z8 z9 z10 hc hac
              have hcl : c < S.2.1.2.1 := by omega
              have hd := sp_deg_le hb a c
              have ht := sp_told_le hb hk (w := w) (a := a) (c := c) (kd := sp_K S.2.1 w) (u := sp_U S.2.1 w) (by omega)
              have hni := sp_ni_ok hb hk (w := w) (a := a) (by omega) hno (j := c) (by omega)
              obtain ⟨o, ho⟩ : ∃ o, o = sp_ni S.2.1 S.2.2.1.1 w a (sp_no S.2.1 S.2.2.1.1 w a) c := ⟨_, rfl⟩
              have hstep : sp_ni S.2.1 S.2.2.1.1 w a (sp_no S.2.1 S.2.2.1.1 w a) (c + 1) = sp_nb S.2.1 S.2.2.1.1 w a c o := by rw [sp_ni, if_pos hac, ← ho]
              rw [← ho] at hni ⊢
              refine ax_iload (pc' := 47) rfl dX8_next_45 rfl ?_
              refine ax_aload_n (pc' := 48) rfl dX8_next_47 rfl ?_
              refine ax_getf (pc' := 51) fl_X8_95 M_o rfl dX8_next_48 rfl ?_
              refine ax_icmp_ge (pc' := 54) (tgt := 195) dX8_next_51 (by decide) rfl (fun hz => absurd hz (nI_ge hcl (by omega))) (fun _ => ?_)
              refine ax_aload_n (pc' := 55) rfl dX8_next_54 rfl ?_
              refine ax_iconst (pc' := 56) (v := (nI 0)) kc_0 dX8_next_55 rfl ?_
              refine ax_iload_n (pc' := 57) rfl dX8_next_56 rfl ?_
              refine ax_iload (pc' := 59) rfl dX8_next_57 rfl ?_
              refine ax_iload (pc' := 61) rfl dX8_next_59 rfl ?_
              refine ax_aload_n (pc' := 62) rfl dX8_next_61 rfl ?_
              refine ax_getf (pc' := 65) fl_X8_19 M_o rfl dX8_next_62 rfl ?_
              refine ax_iload_n (pc' := 66) rfl dX8_next_65 rfl ?_
              refine ax_iald (pc' := 67) M_sort rfl (by omega) (by first | decide | assumption | omega) dX8_next_66 rfl ?_
              refine ax_topi s1 ?_
              refine ax_aload_n (pc' := 68) rfl dX8_next_67 rfl ?_
              refine ax_getf (pc' := 71) fl_X8_25 M_o rfl dX8_next_68 rfl ?_
              refine ax_iload_n (pc' := 72) rfl dX8_next_71 rfl ?_
              refine ax_iald (pc' := 73) M_unit rfl (by omega) (by first | decide | assumption | omega) dX8_next_72 rfl ?_
              refine ax_topi s3 ?_
              refine ax_callVR (pc' := 76) lv_X8_217 (m_told (p := 0) hM hb hL (by decide) hk hw hal hcl k1 (by omega) k5) M_o rfl rfl (Nat.le_of_ble_eq_true rfl) (Nat.le_of_ble_eq_true rfl) dX8_next_73 rfl ?_
              refine ax_istore (pc' := 78) rfl (Nat.le_of_ble_eq_true rfl) dX8_next_76 rfl ?_
              refine ax_aload_n (pc' := 79) rfl dX8_next_78 rfl ?_
              refine ax_iload (pc' := 81) rfl dX8_next_79 rfl ?_
              refine ax_iload (pc' := 83) rfl dX8_next_81 rfl ?_
              refine ax_callVR (pc' := 86) lv_X8_180 (m_degrees hM hb hal hcl) M_o rfl rfl (Nat.le_of_ble_eq_true rfl) (Nat.le_of_ble_eq_true rfl) dX8_next_83 rfl ?_
              refine ax_istore (pc' := 88) rfl (Nat.le_of_ble_eq_true rfl) dX8_next_86 rfl ?_
              refine ax_iload (pc' := 90) rfl dX8_next_88 rfl ?_
              refine ax_iconst (pc' := 91) (v := (nI 2)) kc_2 dX8_next_90 rfl ?_
              have J : ∀ x : Option Nat, x = sp_wid S.2.1 S.2.2.1.1 w a c → ax_J (mX8_next, 8, 0, 0) 0 0 132 [some (.ref 56), some (.int (nI w)), some (.int (nI i)), some (.int (sp_o1 o)), some (.int (sp_o2 o)), some (.int (nI a)), some (.int (nI c)), some (.int (nI (sp_told S.2.1 S.2.2.1.1 w a c (sp_K S.2.1 w) (sp_U S.2.1 w)))), some (.int (nI (sp_deg S.2.1 a c))), z9, z10] [.int (sp_en x)] σ (ms_Po σ (o_next S (nI w) (nI i))) := by
                intro x hxw
                have hxle : ∀ y, x = some y → y ≤ 4309200 := fun y hy => sp_wid_le hb hk (hxw.symm.trans hy)
                refine ax_istore (pc' := 134) rfl (Nat.le_of_ble_eq_true rfl) dX8_next_132 rfl ?_
                refine ax_iload (pc' := 136) rfl dX8_next_134 rfl ?_
                have N : sp_nb S.2.1 S.2.2.1.1 w a c o = o → ax_J (mX8_next, 8, 0, 0) 0 0 154 [some (.ref 56), some (.int (nI w)), some (.int (nI i)), some (.int (sp_o1 o)), some (.int (sp_o2 o)), some (.int (nI a)), some (.int (nI c)), some (.int (nI (sp_told S.2.1 S.2.2.1.1 w a c (sp_K S.2.1 w) (sp_U S.2.1 w)))), some (.int (nI (sp_deg S.2.1 a c))), some (.int (sp_en x)), z10] [] σ (ms_Po σ (o_next S (nI w) (nI i))) := by
                  intro hn
                  refine ax_iconst (pc' := 155) (v := (nI 0)) kc_0 dX8_next_154 rfl ?_
                  refine ax_istore (pc' := 157) rfl (Nat.le_of_ble_eq_true rfl) dX8_next_155 rfl ?_
                  refine ax_iload (pc' := 159) rfl dX8_next_157 rfl ?_
                  refine ax_if_eq (pc' := 162) (tgt := 173) dX8_next_159 (by decide) rfl (fun _ => ?_) (fun hz => absurd (kz_0) hz)
                  refine ax_iload_n (pc' := 174) rfl dX8_next_173 rfl ?_
                  refine ax_istore_n (pc' := 175) rfl (Nat.le_of_ble_eq_true rfl) dX8_next_174 rfl ?_
                  refine ax_iload (pc' := 177) rfl dX8_next_175 rfl ?_
                  refine ax_if_eq (pc' := 180) (tgt := 185) dX8_next_177 (by decide) rfl (fun _ => ?_) (fun hz => absurd (kz_0) hz)
                  refine ax_iload (pc' := 187) rfl dX8_next_185 rfl ?_
                  refine ax_istore (pc' := 189) rfl (Nat.le_of_ble_eq_true rfl) dX8_next_187 rfl ?_
                  refine ax_iinc1 (pc' := 192) rfl rfl (Nat.le_of_ble_eq_true rfl) dX8_next_189 rfl ?_
                  refine ax_goto (tgt := 45) dX8_next_192 (by decide) ?_
                  have := ih2 (c + 1) (some (.int (nI (sp_told S.2.1 S.2.2.1.1 w a c (sp_K S.2.1 w) (sp_U S.2.1 w))))) (some (.int (nI (sp_deg S.2.1 a c)))) (some (.int (sp_en x))) (some (.int (nI 0))) (by omega) (by omega)
                  rw [hstep, hn] at this
                  exact this
                have Y : ∀ y, x = some y → sp_nb S.2.1 S.2.2.1.1 w a c o = some (10 * a + c, y) → ax_J (mX8_next, 8, 0, 0) 0 0 150 [some (.ref 56), some (.int (nI w)), some (.int (nI i)), some (.int (sp_o1 o)), some (.int (sp_o2 o)), some (.int (nI a)), some (.int (nI c)), some (.int (nI (sp_told S.2.1 S.2.2.1.1 w a c (sp_K S.2.1 w) (sp_U S.2.1 w)))), some (.int (nI (sp_deg S.2.1 a c))), some (.int (sp_en x)), z10] [] σ (ms_Po σ (o_next S (nI w) (nI i))) := by
                  intro y hy hn
                  subst hy
                  refine ax_iconst (pc' := 151) (v := (nI 1)) kc_1 dX8_next_150 rfl ?_
                  refine ax_goto (tgt := 155) dX8_next_151 (by decide) ?_
                  refine ax_istore (pc' := 157) rfl (Nat.le_of_ble_eq_true rfl) dX8_next_155 rfl ?_
                  refine ax_iload (pc' := 159) rfl dX8_next_157 rfl ?_
                  refine ax_if_eq (pc' := 162) (tgt := 173) dX8_next_159 (by decide) rfl (fun hz => absurd hz (kz_1)) (fun _ => ?_)
                  refine ax_bipush (pc' := 164) (v := (nI 10)) kb_10 dX8_next_162 rfl ?_
                  refine ax_iload (pc' := 166) rfl dX8_next_164 rfl ?_
                  refine ax_imul (pc' := 167) dX8_next_166 rfl ?_
                  refine ax_iload (pc' := 169) rfl dX8_next_167 rfl ?_
                  refine ax_iadd (pc' := 170) dX8_next_169 rfl ?_
                  refine ax_topi (v' := nI (10 * a + c)) (by rw [pk_mul, nI_add]) ?_
                  refine ax_goto (tgt := 174) dX8_next_170 (by decide) ?_
                  refine ax_istore_n (pc' := 175) rfl (Nat.le_of_ble_eq_true rfl) dX8_next_174 rfl ?_
                  refine ax_iload (pc' := 177) rfl dX8_next_175 rfl ?_
                  refine ax_if_eq (pc' := 180) (tgt := 185) dX8_next_177 (by decide) rfl (fun hz => absurd hz (kz_1)) (fun _ => ?_)
                  refine ax_iload (pc' := 182) rfl dX8_next_180 rfl ?_
                  refine ax_goto (tgt := 187) dX8_next_182 (by decide) ?_
                  refine ax_istore (pc' := 189) rfl (Nat.le_of_ble_eq_true rfl) dX8_next_187 rfl ?_
                  refine ax_iinc1 (pc' := 192) rfl rfl (Nat.le_of_ble_eq_true rfl) dX8_next_189 rfl ?_
                  refine ax_goto (tgt := 45) dX8_next_192 (by decide) ?_
                  have := ih2 (c + 1) (some (.int (nI (sp_told S.2.1 S.2.2.1.1 w a c (sp_K S.2.1 w) (sp_U S.2.1 w))))) (some (.int (nI (sp_deg S.2.1 a c)))) (some (.int (sp_en (some y)))) (some (.int (nI 1))) (by omega) (by omega)
                  rw [hstep, hn] at this
                  exact this
                cases x with
                | none =>
                  refine ax_if_lt (pc' := 139) (tgt := 154) dX8_next_136 (by decide) rfl (fun _ => ?_) (fun hz => absurd ((by decide)) hz)
                  exact N (by simp only [sp_nb, ← hxw])
                | some y =>
                  have hy := hxle y rfl
                  refine ax_if_lt (pc' := 139) (tgt := 154) dX8_next_136 (by decide) rfl (fun hz => absurd hz (nI_pos (by omega))) (fun _ => ?_)
                  refine ax_iload_n (pc' := 140) rfl dX8_next_139 rfl ?_
                  cases o with
                  | none =>
                    refine ax_if_lt (pc' := 143) (tgt := 150) dX8_next_140 (by decide) rfl (fun _ => ?_) (fun hz => absurd ((by decide)) hz)
                    exact Y y rfl (by simp only [sp_nb, ← hxw])
                  | some q =>
                    obtain ⟨g1, g2⟩ := hni q rfl
                    refine ax_if_lt (pc' := 143) (tgt := 150) dX8_next_140 (by decide) rfl (fun hz => absurd hz (nI_pos (by omega))) (fun _ => ?_)
                    refine ax_iload (pc' := 145) rfl dX8_next_143 rfl ?_
                    refine ax_iload (pc' := 147) rfl dX8_next_145 rfl ?_
                    by_cases hlt : y < q.2
                    · refine ax_icmp_ge (pc' := 150) (tgt := 154) dX8_next_147 (by decide) rfl (fun hz => absurd hz (nI_ge hlt (by omega))) (fun _ => ?_)
                      exact Y y rfl (by simp only [sp_nb, ← hxw, hlt, if_true])
                    · refine ax_icmp_ge (pc' := 150) (tgt := 154) dX8_next_147 (by decide) rfl (fun _ => ?_) (fun hz => absurd (nI_le (by omega) (by omega)) hz)
                      exact N (by simp only [sp_nb, ← hxw, hlt, if_false])
              have hq := sp_go_lt (d := 0) ht k5
              by_cases hd2 : sp_deg S.2.1 a c ≤ 2
              · refine ax_icmp_le (pc' := 94) (tgt := 130) dX8_next_91 (by decide) rfl (fun _ => ?_) (fun hz => absurd (nI_le hd2 (by decide)) hz)
                refine ax_bipush (pc' := 132) (v := (-4)) kb_m4 dX8_next_130 rfl ?_
                exact J none (by simp only [sp_wid, show sp_deg S.2.1 a c - 2 = 0 by omega, if_true])
              · refine ax_icmp_le (pc' := 94) (tgt := 130) dX8_next_91 (by decide) rfl (fun hz => absurd hz (nI_ge (by omega) (by omega))) (fun _ => ?_)
                refine ax_aload_n (pc' := 95) rfl dX8_next_94 rfl ?_
                refine ax_iload (pc' := 97) rfl dX8_next_95 rfl ?_
                refine ax_aload_n (pc' := 98) rfl dX8_next_97 rfl ?_
                refine ax_getf (pc' := 101) fl_X8_25 M_o rfl dX8_next_98 rfl ?_
                refine ax_iload_n (pc' := 102) rfl dX8_next_101 rfl ?_
                refine ax_iald (pc' := 103) M_unit rfl (by omega) (by first | decide | assumption | omega) dX8_next_102 rfl ?_
                refine ax_topi s3 ?_
                refine ax_iload (pc' := 105) rfl dX8_next_103 rfl ?_
                refine ax_iconst (pc' := 106) (v := (nI 2)) kc_2 dX8_next_105 rfl ?_
                refine ax_isub (pc' := 107) dX8_next_106 rfl ?_
                refine ax_topi (pk_sub (by omega)) ?_
                refine ax_callVR (pc' := 110) lv_X8_200 (m_girthOf (d := sp_deg S.2.1 a c - 2) ht k5 (by omega) (Or.inl ⟨by omega, rfl⟩)) M_o rfl rfl (Nat.le_of_ble_eq_true rfl) (Nat.le_of_ble_eq_true rfl) dX8_next_107 rfl ?_
                refine ax_aload_n (pc' := 111) rfl dX8_next_110 rfl ?_
                refine ax_iload (pc' := 113) rfl dX8_next_111 rfl ?_
                refine ax_aload_n (pc' := 114) rfl dX8_next_113 rfl ?_
                refine ax_getf (pc' := 117) fl_X8_25 M_o rfl dX8_next_114 rfl ?_
                refine ax_iload_n (pc' := 118) rfl dX8_next_117 rfl ?_
                refine ax_iald (pc' := 119) M_unit rfl (by omega) (by first | decide | assumption | omega) dX8_next_118 rfl ?_
                refine ax_topi s3 ?_
                refine ax_iload (pc' := 121) rfl dX8_next_119 rfl ?_
                refine ax_iconst (pc' := 122) (v := (nI 2)) kc_2 dX8_next_121 rfl ?_
                refine ax_iadd (pc' := 123) dX8_next_122 rfl ?_
                refine ax_topi (nI_add _ 2) ?_
                refine ax_callVR (pc' := 126) lv_X8_200 (m_girthOf (d := sp_deg S.2.1 a c + 2) ht k5 (by omega) (Or.inl ⟨by omega, rfl⟩)) M_o rfl rfl (Nat.le_of_ble_eq_true rfl) (Nat.le_of_ble_eq_true rfl) dX8_next_123 rfl ?_
                refine ax_isub (pc' := 127) dX8_next_126 rfl ?_
                have hle : 36 * sp_told S.2.1 S.2.2.1.1 w a c (sp_K S.2.1 w) (sp_U S.2.1 w) * sp_U S.2.1 w / (sp_deg S.2.1 a c + 2) ≤ 36 * sp_told S.2.1 S.2.2.1.1 w a c (sp_K S.2.1 w) (sp_U S.2.1 w) * sp_U S.2.1 w / (sp_deg S.2.1 a c - 2) := Nat.div_le_div_left (by omega) (by omega)
                refine ax_topi (v' := sp_en (sp_wid S.2.1 S.2.2.1.1 w a c)) (by simp only [sp_wid, show ¬ sp_deg S.2.1 a c - 2 = 0 by omega, if_false, sp_en, sp_go, show ¬ sp_deg S.2.1 a c + 2 = 0 by omega]; rw [pk_sub hle]) ?_
                refine ax_goto (tgt := 132) dX8_next_127 (by decide) ?_
                exact J _ rfl
          have := K2 m (a + 1) z7 z8 z9 z10 (by omega) (by omega)
          rw [sp_ni_low (Nat.le_refl _)] at this
          exact this
      exact K S.2.1.2.1 0 none none none none none (Nat.zero_add _)
    · refine ax_callSR (pc' := 15) ls_X8_101 (m_isF (by decide) (by decide) hu) rfl rfl (Nat.le_of_ble_eq_true rfl) (Nat.le_of_ble_eq_true rfl) dX8_next_12 rfl ?_
      refine ax_if_ne (pc' := 18) (tgt := 20) dX8_next_15 (by decide) rfl (fun hz => absurd (kz_0) hz) (fun _ => ?_)
      exact NO _ (by simp [o_next, e1, e2])
  · refine ax_callVR (pc' := 5) lv_X8_183 (m_isWalkerF hM hb hv) M_o rfl rfl (Nat.le_of_ble_eq_true rfl) (Nat.le_of_ble_eq_true rfl) dX8_next_2 rfl ?_
    refine ax_if_eq (pc' := 8) (tgt := 18) dX8_next_5 (by decide) rfl (fun _ => ?_) (fun hz => absurd (kz_0) hz)
    exact NO _ (by simp [o_next, e1])
theorem y_count (hx : ms_At σ.1 S) (hS : sp_Ok S) (v : Int32) : ax_N mX8_count 8 0 0 [.ref 56, .int v] σ (ms_Po σ (o_count S v)) := by
  obtain ⟨ng, nt, nw, ap, bg, wr, f, M_o, hMb, M_slot, hSl, hNew, hTx, hSg⟩ := id hx
  obtain ⟨l1, l2, l3⟩ := hSl.1
  refine ax_N.of (ls := [some (.ref 56), some (.int v)]) (by decide +kernel) rfl (Nat.le_of_ble_eq_true rfl) ?_
  refine ax_iload_n (pc' := 1) rfl dX8_count_0 rfl ?_
  rcases sp_in_cases v (lo := 0) (hi := 8) (by decide) (by decide) with ⟨i, h1, hi, rfl, e2⟩ | ⟨hu, e2⟩
  · obtain rfl | rfl | rfl | rfl | rfl | rfl | rfl | rfl | rfl : i = 0 ∨ i = 1 ∨ i = 2 ∨ i = 3 ∨ i = 4 ∨ i = 5 ∨ i = 6 ∨ i = 7 ∨ i = 8 := by omega
    · refine ax_if_ne (pc' := 4) (tgt := 11) dX8_count_1 (by decide) rfl (fun hz => absurd (kz_0) hz) (fun _ => ?_)
      refine ax_aload_n (pc' := 5) rfl dX8_count_4 rfl ?_
      refine ax_getf (pc' := 8) fl_X8_95 M_o rfl dX8_count_5 rfl ?_
      refine ax_goto (tgt := 117) dX8_count_8 (by decide) ?_
      exact ax_iret dX8_count_117 rfl (Nat.le_of_ble_eq_true rfl) (Nat.le_of_ble_eq_true rfl) (⟨by simp [o_count, e2], hx, ax_fr.rf⟩)
    · refine ax_if_ne (pc' := 4) (tgt := 11) dX8_count_1 (by decide) rfl (fun _ => ?_) (fun hz => absurd hz ((by decide)))
      refine ax_iload_n (pc' := 12) rfl dX8_count_11 rfl ?_
      refine ax_iconst (pc' := 13) (v := (nI 1)) kc_1 dX8_count_12 rfl ?_
      refine ax_icmp_ne (pc' := 16) (tgt := 23) dX8_count_13 (by decide) rfl (fun hz => absurd (rfl) hz) (fun _ => ?_)
      refine ax_aload_n (pc' := 17) rfl dX8_count_16 rfl ?_
      refine ax_getf (pc' := 20) fl_X8_98 M_o rfl dX8_count_17 rfl ?_
      refine ax_goto (tgt := 117) dX8_count_20 (by decide) ?_
      exact ax_iret dX8_count_117 rfl (Nat.le_of_ble_eq_true rfl) (Nat.le_of_ble_eq_true rfl) (⟨by simp [o_count, e2], hx, ax_fr.rf⟩)
    · refine ax_if_ne (pc' := 4) (tgt := 11) dX8_count_1 (by decide) rfl (fun _ => ?_) (fun hz => absurd hz ((by decide)))
      refine ax_iload_n (pc' := 12) rfl dX8_count_11 rfl ?_
      refine ax_iconst (pc' := 13) (v := (nI 1)) kc_1 dX8_count_12 rfl ?_
      refine ax_icmp_ne (pc' := 16) (tgt := 23) dX8_count_13 (by decide) rfl (fun _ => ?_) (fun hz => absurd hz ((by decide)))
      refine ax_iload_n (pc' := 24) rfl dX8_count_23 rfl ?_
      refine ax_iconst (pc' := 25) (v := (nI 2)) kc_2 dX8_count_24 rfl ?_
      refine ax_icmp_ne (pc' := 28) (tgt := 35) dX8_count_25 (by decide) rfl (fun hz => absurd (rfl) hz) (fun _ => ?_)
      refine ax_aload_n (pc' := 29) rfl dX8_count_28 rfl ?_
      refine ax_getf (pc' := 32) fl_X8_92 M_o rfl dX8_count_29 rfl ?_
      refine ax_goto (tgt := 117) dX8_count_32 (by decide) ?_
      exact ax_iret dX8_count_117 rfl (Nat.le_of_ble_eq_true rfl) (Nat.le_of_ble_eq_true rfl) (⟨by simp [o_count, e2], hx, ax_fr.rf⟩)
    · refine ax_if_ne (pc' := 4) (tgt := 11) dX8_count_1 (by decide) rfl (fun _ => ?_) (fun hz => absurd hz ((by decide)))
      refine ax_iload_n (pc' := 12) rfl dX8_count_11 rfl ?_
      refine ax_iconst (pc' := 13) (v := (nI 1)) kc_1 dX8_count_12 rfl ?_
      refine ax_icmp_ne (pc' := 16) (tgt := 23) dX8_count_13 (by decide) rfl (fun _ => ?_) (fun hz => absurd hz ((by decide)))
      refine ax_iload_n (pc' := 24) rfl dX8_count_23 rfl ?_
      refine ax_iconst (pc' := 25) (v := (nI 2)) kc_2 dX8_count_24 rfl ?_
      refine ax_icmp_ne (pc' := 28) (tgt := 35) dX8_count_25 (by decide) rfl (fun _ => ?_) (fun hz => absurd hz ((by decide)))
      refine ax_iload_n (pc' := 36) rfl dX8_count_35 rfl ?_
      refine ax_iconst (pc' := 37) (v := (nI 3)) kc_3 dX8_count_36 rfl ?_
      refine ax_icmp_ne (pc' := 40) (tgt := 50) dX8_count_37 (by decide) rfl (fun hz => absurd (rfl) hz) (fun _ => ?_)
      refine ax_aload_n (pc' := 41) rfl dX8_count_40 rfl ?_
      refine ax_getf (pc' := 44) fl_X8_46 M_o rfl dX8_count_41 rfl ?_
      refine ax_bipush (pc' := 46) (v := (nI 36)) kb_36 dX8_count_44 rfl ?_
      refine ax_iald (pc' := 47) M_slot rfl (by omega) (by first | decide | assumption | omega) dX8_count_46 rfl ?_
      refine ax_topi l1 ?_
      refine ax_goto (tgt := 117) dX8_count_47 (by decide) ?_
      exact ax_iret dX8_count_117 rfl (Nat.le_of_ble_eq_true rfl) (Nat.le_of_ble_eq_true rfl) (⟨by simp [o_count, e2], hx, ax_fr.rf⟩)
    · refine ax_if_ne (pc' := 4) (tgt := 11) dX8_count_1 (by decide) rfl (fun _ => ?_) (fun hz => absurd hz ((by decide)))
      refine ax_iload_n (pc' := 12) rfl dX8_count_11 rfl ?_
      refine ax_iconst (pc' := 13) (v := (nI 1)) kc_1 dX8_count_12 rfl ?_
      refine ax_icmp_ne (pc' := 16) (tgt := 23) dX8_count_13 (by decide) rfl (fun _ => ?_) (fun hz => absurd hz ((by decide)))
      refine ax_iload_n (pc' := 24) rfl dX8_count_23 rfl ?_
      refine ax_iconst (pc' := 25) (v := (nI 2)) kc_2 dX8_count_24 rfl ?_
      refine ax_icmp_ne (pc' := 28) (tgt := 35) dX8_count_25 (by decide) rfl (fun _ => ?_) (fun hz => absurd hz ((by decide)))
      refine ax_iload_n (pc' := 36) rfl dX8_count_35 rfl ?_
      refine ax_iconst (pc' := 37) (v := (nI 3)) kc_3 dX8_count_36 rfl ?_
      refine ax_icmp_ne (pc' := 40) (tgt := 50) dX8_count_37 (by decide) rfl (fun _ => ?_) (fun hz => absurd hz ((by decide)))
      refine ax_iload_n (pc' := 51) rfl dX8_count_50 rfl ?_
      refine ax_iconst (pc' := 52) (v := (nI 4)) kc_4 dX8_count_51 rfl ?_
      refine ax_icmp_ne (pc' := 55) (tgt := 65) dX8_count_52 (by decide) rfl (fun hz => absurd (rfl) hz) (fun _ => ?_)
      refine ax_aload_n (pc' := 56) rfl dX8_count_55 rfl ?_
      refine ax_getf (pc' := 59) fl_X8_46 M_o rfl dX8_count_56 rfl ?_
      refine ax_bipush (pc' := 61) (v := (nI 37)) kb_37 dX8_count_59 rfl ?_
      refine ax_iald (pc' := 62) M_slot rfl (by omega) (by first | decide | assumption | omega) dX8_count_61 rfl ?_
      refine ax_topi l2 ?_
      refine ax_goto (tgt := 117) dX8_count_62 (by decide) ?_
      exact ax_iret dX8_count_117 rfl (Nat.le_of_ble_eq_true rfl) (Nat.le_of_ble_eq_true rfl) (⟨by simp [o_count, e2], hx, ax_fr.rf⟩)
    · refine ax_if_ne (pc' := 4) (tgt := 11) dX8_count_1 (by decide) rfl (fun _ => ?_) (fun hz => absurd hz ((by decide)))
      refine ax_iload_n (pc' := 12) rfl dX8_count_11 rfl ?_
      refine ax_iconst (pc' := 13) (v := (nI 1)) kc_1 dX8_count_12 rfl ?_
      refine ax_icmp_ne (pc' := 16) (tgt := 23) dX8_count_13 (by decide) rfl (fun _ => ?_) (fun hz => absurd hz ((by decide)))
      refine ax_iload_n (pc' := 24) rfl dX8_count_23 rfl ?_
      refine ax_iconst (pc' := 25) (v := (nI 2)) kc_2 dX8_count_24 rfl ?_
      refine ax_icmp_ne (pc' := 28) (tgt := 35) dX8_count_25 (by decide) rfl (fun _ => ?_) (fun hz => absurd hz ((by decide)))
      refine ax_iload_n (pc' := 36) rfl dX8_count_35 rfl ?_
      refine ax_iconst (pc' := 37) (v := (nI 3)) kc_3 dX8_count_36 rfl ?_
      refine ax_icmp_ne (pc' := 40) (tgt := 50) dX8_count_37 (by decide) rfl (fun _ => ?_) (fun hz => absurd hz ((by decide)))
      refine ax_iload_n (pc' := 51) rfl dX8_count_50 rfl ?_
      refine ax_iconst (pc' := 52) (v := (nI 4)) kc_4 dX8_count_51 rfl ?_
      refine ax_icmp_ne (pc' := 55) (tgt := 65) dX8_count_52 (by decide) rfl (fun _ => ?_) (fun hz => absurd hz ((by decide)))
      refine ax_iload_n (pc' := 66) rfl dX8_count_65 rfl ?_
      refine ax_iconst (pc' := 67) (v := (nI 5)) kc_5 dX8_count_66 rfl ?_
      refine ax_icmp_ne (pc' := 70) (tgt := 77) dX8_count_67 (by decide) rfl (fun hz => absurd (rfl) hz) (fun _ => ?_)
      refine ax_aload_n (pc' := 71) rfl dX8_count_70 rfl ?_
      refine ax_getf (pc' := 74) fl_X8_155 M_o rfl dX8_count_71 rfl ?_
      refine ax_goto (tgt := 117) dX8_count_74 (by decide) ?_
      exact ax_iret dX8_count_117 rfl (Nat.le_of_ble_eq_true rfl) (Nat.le_of_ble_eq_true rfl) (⟨by simp [o_count, e2], hx, ax_fr.rf⟩)
    · refine ax_if_ne (pc' := 4) (tgt := 11) dX8_count_1 (by decide) rfl (fun _ => ?_) (fun hz => absurd hz ((by decide)))
      refine ax_iload_n (pc' := 12) rfl dX8_count_11 rfl ?_
      refine ax_iconst (pc' := 13) (v := (nI 1)) kc_1 dX8_count_12 rfl ?_
      refine ax_icmp_ne (pc' := 16) (tgt := 23) dX8_count_13 (by decide) rfl (fun _ => ?_) (fun hz => absurd hz ((by decide)))
      refine ax_iload_n (pc' := 24) rfl dX8_count_23 rfl ?_
      refine ax_iconst (pc' := 25) (v := (nI 2)) kc_2 dX8_count_24 rfl ?_
      refine ax_icmp_ne (pc' := 28) (tgt := 35) dX8_count_25 (by decide) rfl (fun _ => ?_) (fun hz => absurd hz ((by decide)))
      refine ax_iload_n (pc' := 36) rfl dX8_count_35 rfl ?_
      refine ax_iconst (pc' := 37) (v := (nI 3)) kc_3 dX8_count_36 rfl ?_
      refine ax_icmp_ne (pc' := 40) (tgt := 50) dX8_count_37 (by decide) rfl (fun _ => ?_) (fun hz => absurd hz ((by decide)))
      refine ax_iload_n (pc' := 51) rfl dX8_count_50 rfl ?_
      refine ax_iconst (pc' := 52) (v := (nI 4)) kc_4 dX8_count_51 rfl ?_
      refine ax_icmp_ne (pc' := 55) (tgt := 65) dX8_count_52 (by decide) rfl (fun _ => ?_) (fun hz => absurd hz ((by decide)))
      refine ax_iload_n (pc' := 66) rfl dX8_count_65 rfl ?_
      refine ax_iconst (pc' := 67) (v := (nI 5)) kc_5 dX8_count_66 rfl ?_
      refine ax_icmp_ne (pc' := 70) (tgt := 77) dX8_count_67 (by decide) rfl (fun _ => ?_) (fun hz => absurd hz ((by decide)))
      refine ax_iload_n (pc' := 78) rfl dX8_count_77 rfl ?_
      refine ax_bipush (pc' := 80) (v := (nI 6)) kb_6 dX8_count_78 rfl ?_
      refine ax_icmp_ne (pc' := 83) (tgt := 90) dX8_count_80 (by decide) rfl (fun hz => absurd (rfl) hz) (fun _ => ?_)
      refine ax_aload_n (pc' := 84) rfl dX8_count_83 rfl ?_
      refine ax_getf (pc' := 87) fl_X8_149 M_o rfl dX8_count_84 rfl ?_
      refine ax_goto (tgt := 117) dX8_count_87 (by decide) ?_
      exact ax_iret dX8_count_117 rfl (Nat.le_of_ble_eq_true rfl) (Nat.le_of_ble_eq_true rfl) (⟨by simp [o_count, e2], hx, ax_fr.rf⟩)
    · refine ax_if_ne (pc' := 4) (tgt := 11) dX8_count_1 (by decide) rfl (fun _ => ?_) (fun hz => absurd hz ((by decide)))
      refine ax_iload_n (pc' := 12) rfl dX8_count_11 rfl ?_
      refine ax_iconst (pc' := 13) (v := (nI 1)) kc_1 dX8_count_12 rfl ?_
      refine ax_icmp_ne (pc' := 16) (tgt := 23) dX8_count_13 (by decide) rfl (fun _ => ?_) (fun hz => absurd hz ((by decide)))
      refine ax_iload_n (pc' := 24) rfl dX8_count_23 rfl ?_
      refine ax_iconst (pc' := 25) (v := (nI 2)) kc_2 dX8_count_24 rfl ?_
      refine ax_icmp_ne (pc' := 28) (tgt := 35) dX8_count_25 (by decide) rfl (fun _ => ?_) (fun hz => absurd hz ((by decide)))
      refine ax_iload_n (pc' := 36) rfl dX8_count_35 rfl ?_
      refine ax_iconst (pc' := 37) (v := (nI 3)) kc_3 dX8_count_36 rfl ?_
      refine ax_icmp_ne (pc' := 40) (tgt := 50) dX8_count_37 (by decide) rfl (fun _ => ?_) (fun hz => absurd hz ((by decide)))
      refine ax_iload_n (pc' := 51) rfl dX8_count_50 rfl ?_
      refine ax_iconst (pc' := 52) (v := (nI 4)) kc_4 dX8_count_51 rfl ?_
      refine ax_icmp_ne (pc' := 55) (tgt := 65) dX8_count_52 (by decide) rfl (fun _ => ?_) (fun hz => absurd hz ((by decide)))
      refine ax_iload_n (pc' := 66) rfl dX8_count_65 rfl ?_
      refine ax_iconst (pc' := 67) (v := (nI 5)) kc_5 dX8_count_66 rfl ?_
      refine ax_icmp_ne (pc' := 70) (tgt := 77) dX8_count_67 (by decide) rfl (fun _ => ?_) (fun hz => absurd hz ((by decide)))
      refine ax_iload_n (pc' := 78) rfl dX8_count_77 rfl ?_
      refine ax_bipush (pc' := 80) (v := (nI 6)) kb_6 dX8_count_78 rfl ?_
      refine ax_icmp_ne (pc' := 83) (tgt := 90) dX8_count_80 (by decide) rfl (fun _ => ?_) (fun hz => absurd hz ((by decide)))
      refine ax_iload_n (pc' := 91) rfl dX8_count_90 rfl ?_
      refine ax_bipush (pc' := 93) (v := (nI 7)) kb_7 dX8_count_91 rfl ?_
      refine ax_icmp_ne (pc' := 96) (tgt := 103) dX8_count_93 (by decide) rfl (fun hz => absurd (rfl) hz) (fun _ => ?_)
      refine ax_aload_n (pc' := 97) rfl dX8_count_96 rfl ?_
      refine ax_getf (pc' := 100) fl_X8_152 M_o rfl dX8_count_97 rfl ?_
      refine ax_goto (tgt := 117) dX8_count_100 (by decide) ?_
      exact ax_iret dX8_count_117 rfl (Nat.le_of_ble_eq_true rfl) (Nat.le_of_ble_eq_true rfl) (⟨by simp [o_count, e2], hx, ax_fr.rf⟩)
    · refine ax_if_ne (pc' := 4) (tgt := 11) dX8_count_1 (by decide) rfl (fun _ => ?_) (fun hz => absurd hz ((by decide)))
      refine ax_iload_n (pc' := 12) rfl dX8_count_11 rfl ?_
      refine ax_iconst (pc' := 13) (v := (nI 1)) kc_1 dX8_count_12 rfl ?_
      refine ax_icmp_ne (pc' := 16) (tgt := 23) dX8_count_13 (by decide) rfl (fun _ => ?_) (fun hz => absurd hz ((by decide)))
      refine ax_iload_n (pc' := 24) rfl dX8_count_23 rfl ?_
      refine ax_iconst (pc' := 25) (v := (nI 2)) kc_2 dX8_count_24 rfl ?_
      refine ax_icmp_ne (pc' := 28) (tgt := 35) dX8_count_25 (by decide) rfl (fun _ => ?_) (fun hz => absurd hz ((by decide)))
      refine ax_iload_n (pc' := 36) rfl dX8_count_35 rfl ?_
      refine ax_iconst (pc' := 37) (v := (nI 3)) kc_3 dX8_count_36 rfl ?_
      refine ax_icmp_ne (pc' := 40) (tgt := 50) dX8_count_37 (by decide) rfl (fun _ => ?_) (fun hz => absurd hz ((by decide)))
      refine ax_iload_n (pc' := 51) rfl dX8_count_50 rfl ?_
      refine ax_iconst (pc' := 52) (v := (nI 4)) kc_4 dX8_count_51 rfl ?_
      refine ax_icmp_ne (pc' := 55) (tgt := 65) dX8_count_52 (by decide) rfl (fun _ => ?_) (fun hz => absurd hz ((by decide)))
      refine ax_iload_n (pc' := 66) rfl dX8_count_65 rfl ?_
      refine ax_iconst (pc' := 67) (v := (nI 5)) kc_5 dX8_count_66 rfl ?_
      refine ax_icmp_ne (pc' := 70) (tgt := 77) dX8_count_67 (by decide) rfl (fun _ => ?_) (fun hz => absurd hz ((by decide)))
      refine ax_iload_n (pc' := 78) rfl dX8_count_77 rfl ?_
      refine ax_bipush (pc' := 80) (v := (nI 6)) kb_6 dX8_count_78 rfl ?_
      refine ax_icmp_ne (pc' := 83) (tgt := 90) dX8_count_80 (by decide) rfl (fun _ => ?_) (fun hz => absurd hz ((by decide)))
      refine ax_iload_n (pc' := 91) rfl dX8_count_90 rfl ?_
      refine ax_bipush (pc' := 93) (v := (nI 7)) kb_7 dX8_count_91 rfl ?_
      refine ax_icmp_ne (pc' := 96) (tgt := 103) dX8_count_93 (by decide) rfl (fun _ => ?_) (fun hz => absurd hz ((by decide)))
      refine ax_iload_n (pc' := 104) rfl dX8_count_103 rfl ?_
      refine ax_bipush (pc' := 106) (v := (nI 8)) kb_8 dX8_count_104 rfl ?_
      refine ax_icmp_ne (pc' := 109) (tgt := 116) dX8_count_106 (by decide) rfl (fun hz => absurd (rfl) hz) (fun _ => ?_)
      refine ax_aload_n (pc' := 110) rfl dX8_count_109 rfl ?_
      refine ax_getf (pc' := 113) fl_X8_113 M_o rfl dX8_count_110 rfl ?_
      refine ax_goto (tgt := 117) dX8_count_113 (by decide) ?_
      exact ax_iret dX8_count_117 rfl (Nat.le_of_ble_eq_true rfl) (Nat.le_of_ble_eq_true rfl) (⟨by simp [o_count, e2], hx, ax_fr.rf⟩)
  · have ne : ∀ j, j ≤ 8 → ¬ v = nI j := fun j hj => sp_out_ne (by decide) hu (Nat.zero_le j) hj
    refine ax_if_ne (pc' := 4) (tgt := 11) dX8_count_1 (by decide) rfl (fun _ => ?_) (fun hz => absurd hz (ne 0 (by decide)))
    refine ax_iload_n (pc' := 12) rfl dX8_count_11 rfl ?_
    refine ax_iconst (pc' := 13) (v := (nI 1)) kc_1 dX8_count_12 rfl ?_
    refine ax_icmp_ne (pc' := 16) (tgt := 23) dX8_count_13 (by decide) rfl (fun _ => ?_) (fun hz => absurd hz (ne 1 (by decide)))
    refine ax_iload_n (pc' := 24) rfl dX8_count_23 rfl ?_
    refine ax_iconst (pc' := 25) (v := (nI 2)) kc_2 dX8_count_24 rfl ?_
    refine ax_icmp_ne (pc' := 28) (tgt := 35) dX8_count_25 (by decide) rfl (fun _ => ?_) (fun hz => absurd hz (ne 2 (by decide)))
    refine ax_iload_n (pc' := 36) rfl dX8_count_35 rfl ?_
    refine ax_iconst (pc' := 37) (v := (nI 3)) kc_3 dX8_count_36 rfl ?_
    refine ax_icmp_ne (pc' := 40) (tgt := 50) dX8_count_37 (by decide) rfl (fun _ => ?_) (fun hz => absurd hz (ne 3 (by decide)))
    refine ax_iload_n (pc' := 51) rfl dX8_count_50 rfl ?_
    refine ax_iconst (pc' := 52) (v := (nI 4)) kc_4 dX8_count_51 rfl ?_
    refine ax_icmp_ne (pc' := 55) (tgt := 65) dX8_count_52 (by decide) rfl (fun _ => ?_) (fun hz => absurd hz (ne 4 (by decide)))
    refine ax_iload_n (pc' := 66) rfl dX8_count_65 rfl ?_
    refine ax_iconst (pc' := 67) (v := (nI 5)) kc_5 dX8_count_66 rfl ?_
    refine ax_icmp_ne (pc' := 70) (tgt := 77) dX8_count_67 (by decide) rfl (fun _ => ?_) (fun hz => absurd hz (ne 5 (by decide)))
    refine ax_iload_n (pc' := 78) rfl dX8_count_77 rfl ?_
    refine ax_bipush (pc' := 80) (v := (nI 6)) kb_6 dX8_count_78 rfl ?_
    refine ax_icmp_ne (pc' := 83) (tgt := 90) dX8_count_80 (by decide) rfl (fun _ => ?_) (fun hz => absurd hz (ne 6 (by decide)))
    refine ax_iload_n (pc' := 91) rfl dX8_count_90 rfl ?_
    refine ax_bipush (pc' := 93) (v := (nI 7)) kb_7 dX8_count_91 rfl ?_
    refine ax_icmp_ne (pc' := 96) (tgt := 103) dX8_count_93 (by decide) rfl (fun _ => ?_) (fun hz => absurd hz (ne 7 (by decide)))
    refine ax_iload_n (pc' := 104) rfl dX8_count_103 rfl ?_
    refine ax_bipush (pc' := 106) (v := (nI 8)) kb_8 dX8_count_104 rfl ?_
    refine ax_icmp_ne (pc' := 109) (tgt := 116) dX8_count_106 (by decide) rfl (fun _ => ?_) (fun hz => absurd hz (ne 8 (by decide)))
    refine ax_iconst (pc' := 117) (v := (-1)) kc_m1 dX8_count_116 rfl ?_
    exact ax_iret dX8_count_117 rfl (Nat.le_of_ble_eq_true rfl) (Nat.le_of_ble_eq_true rfl) (⟨by simp [o_count, e2], hx, ax_fr.rf⟩)
end MQ
