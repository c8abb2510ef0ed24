/-! ===== Trail ===== -/
/-- a walk of d days, or report q struck out at r -/
abbrev sp_act : Type := Nat ⊕ (Nat × sp_rep)
def tr_e (e : sp_act) (vp vw vf vt vs vd : Int32) : Prop := match e with
  | .inl d => vp = -1 ∧ vd = nI d
  | .inr q => vp = nI q.1 ∧ vw = nI q.2.1 ∧ vf = nI q.2.2.1 ∧ vt = nI q.2.2.2.1 ∧ vs = nI q.2.2.2.2
def sp_ac (ts : List sp_act) (i : Nat) : sp_act := ts.getD i (.inl 0)
def tr_At (h : ax_H) (ts : List sp_act) : Prop := ∃ fp fw ff ft fs fd : Nat → Int32,
  h 25 = some (.inr (6, [.ref 26, .ref 27, .ref 28, .ref 29, .ref 30, .ref 31, .int (nI ts.length)])) ∧
  h 26 = some (.inl (false, 8, fp)) ∧ h 27 = some (.inl (false, 8, fw)) ∧ h 28 = some (.inl (false, 8, ff)) ∧ h 29 = some (.inl (false, 8, ft)) ∧ h 30 = some (.inl (false, 8, fs)) ∧ h 31 = some (.inl (false, 8, fd)) ∧
  ∀ i, i < ts.length → tr_e (sp_ac ts i) (fp i) (fw i) (ff i) (ft i) (fs i) (fd i)
theorem tr_At.fr {σ τ : ax_S} {q k : Nat} {ts : List sp_act} (hT : tr_At σ.1 ts) (h : ax_fr q k σ τ) (hd : 32 ≤ q ∨ q + k ≤ 25) : tr_At τ.1 ts := by
  obtain ⟨fp, fw, ff, ft, fs, fd, a1, a2, a3, a4, a5, a6, a7, r⟩ := hT
  exact ⟨fp, fw, ff, ft, fs, fd, h.at a1 (by omega), h.at a2 (by omega), h.at a3 (by omega), h.at a4 (by omega), h.at a5 (by omega), h.at a6 (by omega), h.at a7 (by omega), r⟩
theorem c_Trail_clear {σ : ax_S} {ts : List sp_act} (hT : tr_At σ.1 ts) : ax_N mX6_clear 0 0 0 [.ref 25] σ (fun r τ => r = none ∧ tr_At τ.1 [] ∧ ax_fr 25 7 σ τ) := by
  obtain ⟨fp, fw, ff, ft, fs, fd, T_o, T_places, T_who, T_from, T_to, T_stadia, T_days, hv⟩ := hT
  refine ax_N.of (ls := [some (.ref 25)]) (by decide +kernel) rfl (Nat.le_of_ble_eq_true rfl) ?_
  refine ax_aload_n (pc' := 1) rfl dX6_clear_0 rfl ?_
  refine ax_iconst (pc' := 2) (v := (nI 0)) kc_0 dX6_clear_1 rfl ?_
  refine ax_putu (pc' := 5) fp_X6_30 T_o rfl (fun _ => ⟨rfl, rfl⟩) dX6_clear_2 rfl (fun s1 h1 => ?_)
  have T_o := ax_kS h1
  have T_places := ax_kN h1 T_places (by omega)
  have T_who := ax_kN h1 T_who (by omega)
  have T_from := ax_kN h1 T_from (by omega)
  have T_to := ax_kN h1 T_to (by omega)
  have T_stadia := ax_kN h1 T_stadia (by omega)
  have T_days := ax_kN h1 T_days (by omega)
  exact ax_vret dX6_clear_5 rfl (Nat.le_of_ble_eq_true rfl) (Nat.le_of_ble_eq_true rfl) (⟨rfl, ⟨_, _, _, _, _, _, T_o, T_places, T_who, T_from, T_to, T_stadia, T_days, fun i hi => absurd hi (Nat.not_lt_zero _)⟩, ax_fr.rf.up h1 (by omega) (by omega)⟩)
/-- the last seven of eight -/
def sp_mk {α : Type} (ts : List α) : List α := if ts.length < 8 then ts else ts.tail
theorem sp_mk_len {α : Type} {ts : List α} (h : ts.length ≤ 8) : (sp_mk ts).length < 8 := by
  unfold sp_mk
  split
  · assumption
  · rw [List.length_tail]; omega
theorem c_makeRoom {σ : ax_S} {ts : List sp_act} (hT : tr_At σ.1 ts) (h8 : ts.length ≤ 8) : ax_N mX6_makeRoom 2 0 0 [.ref 25] σ (fun r τ => r = none ∧ tr_At τ.1 (sp_mk ts) ∧ ax_fr 25 7 σ τ) := by
  have hT0 := hT
  obtain ⟨fp, fw, ff, ft, fs, fd, T_o, T_places, T_who, T_from, T_to, T_stadia, T_days, hv⟩ := hT
  refine ax_N.of (ls := [some (.ref 25)]) (by decide +kernel) rfl (Nat.le_of_ble_eq_true rfl) ?_
  refine ax_aload_n (pc' := 1) rfl dX6_makeRoom_0 rfl ?_
  refine ax_getf (pc' := 4) fl_X6_30 T_o rfl dX6_makeRoom_1 rfl ?_
  refine ax_bipush (pc' := 6) (v := (nI 8)) kb_8 dX6_makeRoom_4 rfl ?_
  by_cases h : ts.length < 8
  · refine ax_icmp_ge (pc' := 9) (tgt := 10) dX6_makeRoom_6 (by decide) rfl (fun hz => absurd hz (nI_ge h (by decide))) (fun _ => ?_)
    exact ax_vret dX6_makeRoom_9 rfl (Nat.le_of_ble_eq_true rfl) (Nat.le_of_ble_eq_true rfl) (⟨rfl, by rw [sp_mk, if_pos h]; exact hT0, ax_fr.rf⟩)
  · have e8 : ts.length = 8 := by omega
    refine ax_icmp_ge (pc' := 9) (tgt := 10) dX6_makeRoom_6 (by decide) rfl (fun _ => ?_) (fun hz => absurd (nI_le (by omega) (by omega)) hz)
    refine ax_aload_n (pc' := 11) rfl dX6_makeRoom_10 rfl ?_
    refine ax_getf (pc' := 14) fl_X6_9 T_o rfl dX6_makeRoom_11 rfl ?_
    refine ax_iconst (pc' := 15) (v := (nI 0)) kc_0 dX6_makeRoom_14 rfl ?_
    refine ax_aload_n (pc' := 16) rfl dX6_makeRoom_15 rfl ?_
    refine ax_getf (pc' := 19) fl_X6_30 T_o rfl dX6_makeRoom_16 rfl ?_
    refine ax_callSU (pc' := 22) ls_X6_62 (c_closeGap T_places (by omega) (by omega) (by decide)) rfl rfl (Nat.le_of_ble_eq_true rfl) (Nat.le_of_ble_eq_true rfl) dX6_makeRoom_19 rfl (fun s1 h1 => ?_)
    have T_places := ax_kS h1
    have T_o := ax_kN h1 T_o (by omega)
    have T_who := ax_kN h1 T_who (by omega)
    have T_from := ax_kN h1 T_from (by omega)
    have T_to := ax_kN h1 T_to (by omega)
    have T_stadia := ax_kN h1 T_stadia (by omega)
    have T_days := ax_kN h1 T_days (by omega)
    refine ax_aload_n (pc' := 23) rfl dX6_makeRoom_22 rfl ?_
    refine ax_getf (pc' := 26) fl_X6_15 T_o rfl dX6_makeRoom_23 rfl ?_
    refine ax_iconst (pc' := 27) (v := (nI 0)) kc_0 dX6_makeRoom_26 rfl ?_
    refine ax_aload_n (pc' := 28) rfl dX6_makeRoom_27 rfl ?_
    refine ax_getf (pc' := 31) fl_X6_30 T_o rfl dX6_makeRoom_28 rfl ?_
    refine ax_callSU (pc' := 34) ls_X6_62 (c_closeGap T_who (by omega) (by omega) (by decide)) rfl rfl (Nat.le_of_ble_eq_true rfl) (Nat.le_of_ble_eq_true rfl) dX6_makeRoom_31 rfl (fun s2 h2 => ?_)
    have T_who := ax_kS h2
    have T_o := ax_kN h2 T_o (by omega)
    have T_places := ax_kN h2 T_places (by omega)
    have T_from := ax_kN h2 T_from (by omega)
    have T_to := ax_kN h2 T_to (by omega)
    have T_stadia := ax_kN h2 T_stadia (by omega)
    have T_days := ax_kN h2 T_days (by omega)
    refine ax_aload_n (pc' := 35) rfl dX6_makeRoom_34 rfl ?_
    refine ax_getf (pc' := 38) fl_X6_18 T_o rfl dX6_makeRoom_35 rfl ?_
    refine ax_iconst (pc' := 39) (v := (nI 0)) kc_0 dX6_makeRoom_38 rfl ?_
    refine ax_aload_n (pc' := 40) rfl dX6_makeRoom_39 rfl ?_
    refine ax_getf (pc' := 43) fl_X6_30 T_o rfl dX6_makeRoom_40 rfl ?_
    refine ax_callSU (pc' := 46) ls_X6_62 (c_closeGap T_from (by omega) (by omega) (by decide)) rfl rfl (Nat.le_of_ble_eq_true rfl) (Nat.le_of_ble_eq_true rfl) dX6_makeRoom_43 rfl (fun s3 h3 => ?_)
    have T_from := ax_kS h3
    have T_o := ax_kN h3 T_o (by omega)
    have T_places := ax_kN h3 T_places (by omega)
    have T_who := ax_kN h3 T_who (by omega)
    have T_to := ax_kN h3 T_to (by omega)
    have T_stadia := ax_kN h3 T_stadia (by omega)
    have T_days := ax_kN h3 T_days (by omega)
    refine ax_aload_n (pc' := 47) rfl dX6_makeRoom_46 rfl ?_
    refine ax_getf (pc' := 50) fl_X6_21 T_o rfl dX6_makeRoom_47 rfl ?_
    refine ax_iconst (pc' := 51) (v := (nI 0)) kc_0 dX6_makeRoom_50 rfl ?_
    refine ax_aload_n (pc' := 52) rfl dX6_makeRoom_51 rfl ?_
    refine ax_getf (pc' := 55) fl_X6_30 T_o rfl dX6_makeRoom_52 rfl ?_
    refine ax_callSU (pc' := 58) ls_X6_62 (c_closeGap T_to (by omega) (by omega) (by decide)) rfl rfl (Nat.le_of_ble_eq_true rfl) (Nat.le_of_ble_eq_true rfl) dX6_makeRoom_55 rfl (fun s4 h4 => ?_)
    have T_to := ax_kS h4
    have T_o := ax_kN h4 T_o (by omega)
    have T_places := ax_kN h4 T_places (by omega)
    have T_who := ax_kN h4 T_who (by omega)
    have T_from := ax_kN h4 T_from (by omega)
    have T_stadia := ax_kN h4 T_stadia (by omega)
    have T_days := ax_kN h4 T_days (by omega)
    refine ax_aload_n (pc' := 59) rfl dX6_makeRoom_58 rfl ?_
    refine ax_getf (pc' := 62) fl_X6_24 T_o rfl dX6_makeRoom_59 rfl ?_
    refine ax_iconst (pc' := 63) (v := (nI 0)) kc_0 dX6_makeRoom_62 rfl ?_
    refine ax_aload_n (pc' := 64) rfl dX6_makeRoom_63 rfl ?_
    refine ax_getf (pc' := 67) fl_X6_30 T_o rfl dX6_makeRoom_64 rfl ?_
    refine ax_callSU (pc' := 70) ls_X6_62 (c_closeGap T_stadia (by omega) (by omega) (by decide)) rfl rfl (Nat.le_of_ble_eq_true rfl) (Nat.le_of_ble_eq_true rfl) dX6_makeRoom_67 rfl (fun s5 h5 => ?_)
    have T_stadia := ax_kS h5
    have T_o := ax_kN h5 T_o (by omega)
    have T_places := ax_kN h5 T_places (by omega)
    have T_who := ax_kN h5 T_who (by omega)
    have T_from := ax_kN h5 T_from (by omega)
    have T_to := ax_kN h5 T_to (by omega)
    have T_days := ax_kN h5 T_days (by omega)
    refine ax_aload_n (pc' := 71) rfl dX6_makeRoom_70 rfl ?_
    refine ax_getf (pc' := 74) fl_X6_27 T_o rfl dX6_makeRoom_71 rfl ?_
    refine ax_iconst (pc' := 75) (v := (nI 0)) kc_0 dX6_makeRoom_74 rfl ?_
    refine ax_aload_n (pc' := 76) rfl dX6_makeRoom_75 rfl ?_
    refine ax_getf (pc' := 79) fl_X6_30 T_o rfl dX6_makeRoom_76 rfl ?_
    refine ax_callSU (pc' := 82) ls_X6_62 (c_closeGap T_days (by omega) (by omega) (by decide)) rfl rfl (Nat.le_of_ble_eq_true rfl) (Nat.le_of_ble_eq_true rfl) dX6_makeRoom_79 rfl (fun s6 h6 => ?_)
    have T_days := ax_kS h6
    have T_o := ax_kN h6 T_o (by omega)
    have T_places := ax_kN h6 T_places (by omega)
    have T_who := ax_kN h6 T_who (by omega)
    have T_from := ax_kN h6 T_from (by omega)
    have T_to := ax_kN h6 T_to (by omega)
    have T_stadia := ax_kN h6 T_stadia (by omega)
    refine ax_aload_n (pc' := 83) rfl dX6_makeRoom_82 rfl ?_
    refine ax_dup (pc' := 84) rfl dX6_makeRoom_83 rfl ?_
    refine ax_getf (pc' := 87) fl_X6_30 T_o rfl dX6_makeRoom_84 rfl ?_
    refine ax_iconst (pc' := 88) (v := (nI 1)) kc_1 dX6_makeRoom_87 rfl ?_
    refine ax_isub (pc' := 89) dX6_makeRoom_88 rfl ?_
    have hl : (sp_mk ts).length = ts.length - 1 := by rw [sp_mk, if_neg h, List.length_tail]
    refine ax_topi (v' := nI (sp_mk ts).length) (by rw [pk_sub (by omega), hl]) ?_
    refine ax_putu (pc' := 92) fp_X6_30 T_o rfl (fun _ => ⟨rfl, rfl⟩) dX6_makeRoom_89 rfl (fun s7 h7 => ?_)
    have T_o := ax_kS h7
    have T_places := ax_kN h7 T_places (by omega)
    have T_who := ax_kN h7 T_who (by omega)
    have T_from := ax_kN h7 T_from (by omega)
    have T_to := ax_kN h7 T_to (by omega)
    have T_stadia := ax_kN h7 T_stadia (by omega)
    have T_days := ax_kN h7 T_days (by omega)
    refine ax_vret dX6_makeRoom_92 rfl (Nat.le_refl 0) (Nat.le_refl 0) ⟨rfl, ⟨_, _, _, _, _, _, T_o, T_places, T_who, T_from, T_to, T_stadia, T_days, fun i hi => ?_⟩, ?_⟩
    · rw [hl] at hi
      have e : sp_ac (sp_mk ts) i = sp_ac ts (i + 1) := by
        simp [sp_mk, if_neg h, sp_ac, List.getD_eq_getElem?_getD]
      rw [e]
      simp only [sp_close, show 0 ≤ i ∧ i + 1 < ts.length by omega, if_true, and_self]
      exact hv (i + 1) (by omega)
    · exact ((((((ax_fr.rf.up h1 (by omega) (by omega)).up h2 (by omega) (by omega)).up h3 (by omega) (by omega)).up h4 (by omega) (by omega)).up h5 (by omega) (by omega)).up h6 (by omega) (by omega)).up h7 (by omega) (by omega)
theorem sp_ac_snoc {ts : List sp_act} {e : sp_act} {i : Nat} : sp_ac (ts ++ [e]) i = if i < ts.length then sp_ac ts i else if i = ts.length then e else .inl 0 := by
  simp only [sp_ac, List.getD_eq_getElem?_getD]
  by_cases h : i < ts.length
  · rw [if_pos h, List.getElem?_append_left h]
  · rw [if_neg h, List.getElem?_append_right (by omega)]
    by_cases h2 : i = ts.length
    · simp [h2]
    · rw [if_neg h2, List.getElem?_eq_none (by simp; omega)]
      rfl
theorem c_rememberWalk {σ : ax_S} {d : Nat} {ts : List sp_act} (hT : tr_At σ.1 ts) (h8 : ts.length ≤ 8) : ax_N mX6_rememberWalk 3 0 0 [.ref 25, .int (nI d)] σ (fun r τ => r = none ∧ tr_At τ.1 (sp_mk ts ++ [.inl d]) ∧ ax_fr 25 7 σ τ) := by
  have T_o : σ.1 25 = _ := hT.choose_spec.choose_spec.choose_spec.choose_spec.choose_spec.choose_spec.1
  refine ax_N.of (ls := [some (.ref 25), some (.int (nI d))]) (by decide +kernel) rfl (Nat.le_of_ble_eq_true rfl) ?_
  refine ax_aload_n (pc' := 1) rfl dX6_rememberWalk_0 rfl ?_
  refine ax_callVG (pc' := 4) lv_X6_34 (c_makeRoom hT h8) T_o rfl rfl (Nat.le_of_ble_eq_true rfl) (Nat.le_of_ble_eq_true rfl) dX6_rememberWalk_1 rfl (fun r σ' hr => ?_)
  obtain ⟨rfl, hT, hF⟩ := hr
  have hl := sp_mk_len h8
  obtain ⟨us, hus⟩ : ∃ us, us = sp_mk ts := ⟨_, rfl⟩
  rw [← hus] at hT hl ⊢
  obtain ⟨fp, fw, ff, ft, fs, fd, T_o, T_places, T_who, T_from, T_to, T_stadia, T_days, hv⟩ := hT
  refine ax_aload_n (pc' := 5) rfl dX6_rememberWalk_4 rfl ?_
  refine ax_getf (pc' := 8) fl_X6_9 T_o rfl dX6_rememberWalk_5 rfl ?_
  refine ax_aload_n (pc' := 9) rfl dX6_rememberWalk_8 rfl ?_
  refine ax_getf (pc' := 12) fl_X6_30 T_o rfl dX6_rememberWalk_9 rfl ?_
  refine ax_iconst (pc' := 13) (v := (-1)) kc_m1 dX6_rememberWalk_12 rfl ?_
  refine ax_callSU (pc' := 16) ls_X6_37 (c_put T_places hl (by decide)) rfl rfl (Nat.le_of_ble_eq_true rfl) (Nat.le_of_ble_eq_true rfl) dX6_rememberWalk_13 rfl (fun s1 h1 => ?_)
  have T_places := ax_kS h1
  have T_o := ax_kN h1 T_o (by omega)
  have T_who := ax_kN h1 T_who (by omega)
  have T_from := ax_kN h1 T_from (by omega)
  have T_to := ax_kN h1 T_to (by omega)
  have T_stadia := ax_kN h1 T_stadia (by omega)
  have T_days := ax_kN h1 T_days (by omega)
  refine ax_aload_n (pc' := 17) rfl dX6_rememberWalk_16 rfl ?_
  refine ax_getf (pc' := 20) fl_X6_27 T_o rfl dX6_rememberWalk_17 rfl ?_
  refine ax_aload_n (pc' := 21) rfl dX6_rememberWalk_20 rfl ?_
  refine ax_getf (pc' := 24) fl_X6_30 T_o rfl dX6_rememberWalk_21 rfl ?_
  refine ax_iload_n (pc' := 25) rfl dX6_rememberWalk_24 rfl ?_
  refine ax_callSU (pc' := 28) ls_X6_37 (c_put T_days hl (by decide)) rfl rfl (Nat.le_of_ble_eq_true rfl) (Nat.le_of_ble_eq_true rfl) dX6_rememberWalk_25 rfl (fun s2 h2 => ?_)
  have T_days := ax_kS h2
  have T_o := ax_kN h2 T_o (by omega)
  have T_places := ax_kN h2 T_places (by omega)
  have T_who := ax_kN h2 T_who (by omega)
  have T_from := ax_kN h2 T_from (by omega)
  have T_to := ax_kN h2 T_to (by omega)
  have T_stadia := ax_kN h2 T_stadia (by omega)
  refine ax_aload_n (pc' := 29) rfl dX6_rememberWalk_28 rfl ?_
  refine ax_dup (pc' := 30) rfl dX6_rememberWalk_29 rfl ?_
  refine ax_getf (pc' := 33) fl_X6_30 T_o rfl dX6_rememberWalk_30 rfl ?_
  refine ax_iconst (pc' := 34) (v := (nI 1)) kc_1 dX6_rememberWalk_33 rfl ?_
  refine ax_iadd (pc' := 35) dX6_rememberWalk_34 rfl ?_
  refine ax_topi (v' := nI (us ++ [(Sum.inl d : sp_act)]).length) (by rw [nI_add]; simp) ?_
  refine ax_putu (pc' := 38) fp_X6_30 T_o rfl (fun _ => ⟨rfl, rfl⟩) dX6_rememberWalk_35 rfl (fun s3 h3 => ?_)
  have T_o := ax_kS h3
  have T_places := ax_kN h3 T_places (by omega)
  have T_who := ax_kN h3 T_who (by omega)
  have T_from := ax_kN h3 T_from (by omega)
  have T_to := ax_kN h3 T_to (by omega)
  have T_stadia := ax_kN h3 T_stadia (by omega)
  have T_days := ax_kN h3 T_days (by omega)
  refine ax_vret dX6_rememberWalk_38 rfl (Nat.le_refl 0) (Nat.le_refl 0) ⟨rfl, ⟨_, _, _, _, _, _, T_o, T_places, T_who, T_from, T_to, T_stadia, T_days, fun i hi => ?_⟩, ?_⟩
  · rw [sp_ac_snoc]
    by_cases e : i = us.length
    · subst e
      simp [upd, tr_e]
    · have hi2 : i < us.length := by simp at hi; omega
      simp only [upd, e, if_false, hi2, if_true]
      exact hv i hi2
  · exact ((hF.up h1 (by omega) (by omega)).up h2 (by omega) (by omega)).up h3 (by omega) (by omega)
theorem c_rememberStriking {σ : ax_S} {p r dy : Nat} {rs : List sp_rep} {ts : List sp_act} (hT : tr_At σ.1 ts) (h8 : ts.length ≤ 8) (hK : bk_At σ.1 p rs dy) (h9 : rs.length ≤ 9) (hr : r < rs.length) (hp : p + 5 ≤ 25 ∨ 32 ≤ p) : ax_N mX6_rememberStriking 3 0 0 [.ref 25, .ref p, .int (nI r)] σ (fun r' τ => r' = none ∧ tr_At τ.1 (sp_mk ts ++ [.inr (r, sp_at rs r)]) ∧ ax_fr 25 7 σ τ) := by
  have T_o : σ.1 25 = _ := hT.choose_spec.choose_spec.choose_spec.choose_spec.choose_spec.choose_spec.1
  refine ax_N.of (ls := [some (.ref 25), some (.ref p), some (.int (nI r))]) (by decide +kernel) rfl (Nat.le_of_ble_eq_true rfl) ?_
  refine ax_aload_n (pc' := 1) rfl dX6_rememberStriking_0 rfl ?_
  refine ax_callVG (pc' := 4) lv_X6_34 (c_makeRoom hT h8) T_o rfl rfl (Nat.le_of_ble_eq_true rfl) (Nat.le_of_ble_eq_true rfl) dX6_rememberStriking_1 rfl (fun r1 σ' hr1 => ?_)
  obtain ⟨rfl, hT, hF⟩ := hr1
  have hK := hK.fr hF (by omega)
  have hl := sp_mk_len h8
  obtain ⟨us, hus⟩ : ∃ us, us = sp_mk ts := ⟨_, rfl⟩
  rw [← hus] at hT hl ⊢
  obtain ⟨fp, fw, ff, ft, fs, fd, T_o, T_places, T_who, T_from, T_to, T_stadia, T_days, hv⟩ := hT
  obtain ⟨gw, gf, gt, gs, K_o, K_who, K_from, K_to, K_stadia, hg⟩ := hK
  obtain ⟨g0, g1, g2, g3⟩ := hg r hr
  refine ax_aload_n (pc' := 5) rfl dX6_rememberStriking_4 rfl ?_
  refine ax_getf (pc' := 8) fl_X6_9 T_o rfl dX6_rememberStriking_5 rfl ?_
  refine ax_aload_n (pc' := 9) rfl dX6_rememberStriking_8 rfl ?_
  refine ax_getf (pc' := 12) fl_X6_30 T_o rfl dX6_rememberStriking_9 rfl ?_
  refine ax_iload_n (pc' := 13) rfl dX6_rememberStriking_12 rfl ?_
  refine ax_callSU (pc' := 16) ls_X6_37 (c_put T_places hl (by decide)) rfl rfl (Nat.le_of_ble_eq_true rfl) (Nat.le_of_ble_eq_true rfl) dX6_rememberStriking_13 rfl (fun s1 h1 => ?_)
  have T_places := ax_kS h1
  have T_o := ax_kN h1 T_o (by omega)
  have T_who := ax_kN h1 T_who (by omega)
  have T_from := ax_kN h1 T_from (by omega)
  have T_to := ax_kN h1 T_to (by omega)
  have T_stadia := ax_kN h1 T_stadia (by omega)
  have T_days := ax_kN h1 T_days (by omega)
  have K_o := ax_kN h1 K_o (by omega)
  have K_who := ax_kN h1 K_who (by omega)
  have K_from := ax_kN h1 K_from (by omega)
  have K_to := ax_kN h1 K_to (by omega)
  have K_stadia := ax_kN h1 K_stadia (by omega)
  refine ax_aload_n (pc' := 17) rfl dX6_rememberStriking_16 rfl ?_
  refine ax_getf (pc' := 20) fl_X6_15 T_o rfl dX6_rememberStriking_17 rfl ?_
  refine ax_aload_n (pc' := 21) rfl dX6_rememberStriking_20 rfl ?_
  refine ax_getf (pc' := 24) fl_X6_30 T_o rfl dX6_rememberStriking_21 rfl ?_
  refine ax_aload_n (pc' := 25) rfl dX6_rememberStriking_24 rfl ?_
  refine ax_getf (pc' := 28) fl_X6_41 K_o rfl dX6_rememberStriking_25 rfl ?_
  refine ax_iload_n (pc' := 29) rfl dX6_rememberStriking_28 rfl ?_
  refine ax_callSR (pc' := 32) ls_X6_44 (c_at K_who (by omega) (by decide)) rfl rfl (Nat.le_of_ble_eq_true rfl) (Nat.le_of_ble_eq_true rfl) dX6_rememberStriking_29 rfl ?_
  refine ax_callSU (pc' := 35) ls_X6_37 (c_put T_who hl (by decide)) rfl rfl (Nat.le_of_ble_eq_true rfl) (Nat.le_of_ble_eq_true rfl) dX6_rememberStriking_32 rfl (fun s2 h2 => ?_)
  have T_who := ax_kS h2
  have T_o := ax_kN h2 T_o (by omega)
  have T_places := ax_kN h2 T_places (by omega)
  have T_from := ax_kN h2 T_from (by omega)
  have T_to := ax_kN h2 T_to (by omega)
  have T_stadia := ax_kN h2 T_stadia (by omega)
  have T_days := ax_kN h2 T_days (by omega)
  have K_o := ax_kN h2 K_o (by omega)
  have K_who := ax_kN h2 K_who (by omega)
  have K_from := ax_kN h2 K_from (by omega)
  have K_to := ax_kN h2 K_to (by omega)
  have K_stadia := ax_kN h2 K_stadia (by omega)
  refine ax_aload_n (pc' := 36) rfl dX6_rememberStriking_35 rfl ?_
  refine ax_getf (pc' := 39) fl_X6_18 T_o rfl dX6_rememberStriking_36 rfl ?_
  refine ax_aload_n (pc' := 40) rfl dX6_rememberStriking_39 rfl ?_
  refine ax_getf (pc' := 43) fl_X6_30 T_o rfl dX6_rememberStriking_40 rfl ?_
  refine ax_aload_n (pc' := 44) rfl dX6_rememberStriking_43 rfl ?_
  refine ax_getf (pc' := 47) fl_X6_48 K_o rfl dX6_rememberStriking_44 rfl ?_
  refine ax_iload_n (pc' := 48) rfl dX6_rememberStriking_47 rfl ?_
  refine ax_callSR (pc' := 51) ls_X6_44 (c_at K_from (by omega) (by decide)) rfl rfl (Nat.le_of_ble_eq_true rfl) (Nat.le_of_ble_eq_true rfl) dX6_rememberStriking_48 rfl ?_
  refine ax_callSU (pc' := 54) ls_X6_37 (c_put T_from hl (by decide)) rfl rfl (Nat.le_of_ble_eq_true rfl) (Nat.le_of_ble_eq_true rfl) dX6_rememberStriking_51 rfl (fun s3 h3 => ?_)
  have T_from := ax_kS h3
  have T_o := ax_kN h3 T_o (by omega)
  have T_places := ax_kN h3 T_places (by omega)
  have T_who := ax_kN h3 T_who (by omega)
  have T_to := ax_kN h3 T_to (by omega)
  have T_stadia := ax_kN h3 T_stadia (by omega)
  have T_days := ax_kN h3 T_days (by omega)
  have K_o := ax_kN h3 K_o (by omega)
  have K_who := ax_kN h3 K_who (by omega)
  have K_from := ax_kN h3 K_from (by omega)
  have K_to := ax_kN h3 K_to (by omega)
  have K_stadia := ax_kN h3 K_stadia (by omega)
  refine ax_aload_n (pc' := 55) rfl dX6_rememberStriking_54 rfl ?_
  refine ax_getf (pc' := 58) fl_X6_21 T_o rfl dX6_rememberStriking_55 rfl ?_
  refine ax_aload_n (pc' := 59) rfl dX6_rememberStriking_58 rfl ?_
  refine ax_getf (pc' := 62) fl_X6_30 T_o rfl dX6_rememberStriking_59 rfl ?_
  refine ax_aload_n (pc' := 63) rfl dX6_rememberStriking_62 rfl ?_
  refine ax_getf (pc' := 66) fl_X6_49 K_o rfl dX6_rememberStriking_63 rfl ?_
  refine ax_iload_n (pc' := 67) rfl dX6_rememberStriking_66 rfl ?_
  refine ax_callSR (pc' := 70) ls_X6_44 (c_at K_to (by omega) (by decide)) rfl rfl (Nat.le_of_ble_eq_true rfl) (Nat.le_of_ble_eq_true rfl) dX6_rememberStriking_67 rfl ?_
  refine ax_callSU (pc' := 73) ls_X6_37 (c_put T_to hl (by decide)) rfl rfl (Nat.le_of_ble_eq_true rfl) (Nat.le_of_ble_eq_true rfl) dX6_rememberStriking_70 rfl (fun s4 h4 => ?_)
  have T_to := ax_kS h4
  have T_o := ax_kN h4 T_o (by omega)
  have T_places := ax_kN h4 T_places (by omega)
  have T_who := ax_kN h4 T_who (by omega)
  have T_from := ax_kN h4 T_from (by omega)
  have T_stadia := ax_kN h4 T_stadia (by omega)
  have T_days := ax_kN h4 T_days (by omega)
  have K_o := ax_kN h4 K_o (by omega)
  have K_who := ax_kN h4 K_who (by omega)
  have K_from := ax_kN h4 K_from (by omega)
  have K_to := ax_kN h4 K_to (by omega)
  have K_stadia := ax_kN h4 K_stadia (by omega)
  refine ax_aload_n (pc' := 74) rfl dX6_rememberStriking_73 rfl ?_
  refine ax_getf (pc' := 77) fl_X6_24 T_o rfl dX6_rememberStriking_74 rfl ?_
  refine ax_aload_n (pc' := 78) rfl dX6_rememberStriking_77 rfl ?_
  refine ax_getf (pc' := 81) fl_X6_30 T_o rfl dX6_rememberStriking_78 rfl ?_
  refine ax_aload_n (pc' := 82) rfl dX6_rememberStriking_81 rfl ?_
  refine ax_getf (pc' := 85) fl_X6_50 K_o rfl dX6_rememberStriking_82 rfl ?_
  refine ax_iload_n (pc' := 86) rfl dX6_rememberStriking_85 rfl ?_
  refine ax_callSR (pc' := 89) ls_X6_44 (c_at K_stadia (by omega) (by decide)) rfl rfl (Nat.le_of_ble_eq_true rfl) (Nat.le_of_ble_eq_true rfl) dX6_rememberStriking_86 rfl ?_
  refine ax_callSU (pc' := 92) ls_X6_37 (c_put T_stadia hl (by decide)) rfl rfl (Nat.le_of_ble_eq_true rfl) (Nat.le_of_ble_eq_true rfl) dX6_rememberStriking_89 rfl (fun s5 h5 => ?_)
  have T_stadia := ax_kS h5
  have T_o := ax_kN h5 T_o (by omega)
  have T_places := ax_kN h5 T_places (by omega)
  have T_who := ax_kN h5 T_who (by omega)
  have T_from := ax_kN h5 T_from (by omega)
  have T_to := ax_kN h5 T_to (by omega)
  have T_days := ax_kN h5 T_days (by omega)
  refine ax_aload_n (pc' := 93) rfl dX6_rememberStriking_92 rfl ?_
  refine ax_dup (pc' := 94) rfl dX6_rememberStriking_93 rfl ?_
  refine ax_getf (pc' := 97) fl_X6_30 T_o rfl dX6_rememberStriking_94 rfl ?_
  refine ax_iconst (pc' := 98) (v := (nI 1)) kc_1 dX6_rememberStriking_97 rfl ?_
  refine ax_iadd (pc' := 99) dX6_rememberStriking_98 rfl ?_
  refine ax_topi (v' := nI (us ++ [(Sum.inr (r, sp_at rs r) : sp_act)]).length) (by rw [nI_add]; simp) ?_
  refine ax_putu (pc' := 102) fp_X6_30 T_o rfl (fun _ => ⟨rfl, rfl⟩) dX6_rememberStriking_99 rfl (fun s6 h6 => ?_)
  have T_o := ax_kS h6
  have T_places := ax_kN h6 T_places (by omega)
  have T_who := ax_kN h6 T_who (by omega)
  have T_from := ax_kN h6 T_from (by omega)
  have T_to := ax_kN h6 T_to (by omega)
  have T_stadia := ax_kN h6 T_stadia (by omega)
  have T_days := ax_kN h6 T_days (by omega)
  refine ax_vret dX6_rememberStriking_102 rfl (Nat.le_refl 0) (Nat.le_refl 0) ⟨rfl, ⟨_, _, _, _, _, _, T_o, T_places, T_who, T_from, T_to, T_stadia, T_days, fun i hi => ?_⟩, ?_⟩
  · rw [sp_ac_snoc]
    by_cases e : i = us.length
    · subst e
      simp [upd, tr_e, g0, g1, g2, g3]
    · have hi2 : i < us.length := by simp at hi; omega
      simp only [upd, e, if_false, hi2, if_true]
      exact hv i hi2
  · exact (((((hF.up h1 (by omega) (by omega)).up h2 (by omega) (by omega)).up h3 (by omega) (by omega)).up h4 (by omega) (by omega)).up h5 (by omega) (by omega)).up h6 (by omega) (by omega)
/-- the trail's cells and the book's at p, and no others -/
def tb_fr (p : Nat) (σ τ : ax_S) : Prop := τ.2 = σ.2 ∧ ∀ q, (q < 25 ∨ 32 ≤ q) → (q < p ∨ p + 5 ≤ q) → τ.1 q = σ.1 q
/-- a book before an act, and behind it -/
def sp_step (e : sp_act) (B A : List sp_rep × Nat) : Prop := match e with
  | .inl d => (∃ q, A.1 = B.1 ++ [q]) ∧ A.2 = B.2 + d
  | .inr q => q.1 < B.1.length ∧ q.2 = sp_at B.1 q.1 ∧ A.1 = sp_del B.1 q.1 ∧ A.2 = B.2
theorem c_takeBack {σ : ax_S} {p : Nat} {ts : List sp_act} {e : sp_act} {B A : List sp_rep × Nat} (hT : tr_At σ.1 (ts ++ [e])) (h8 : ts.length < 8) (hK : bk_At σ.1 p A.1 A.2) (h9 : A.1.length ≤ 9) (hB9 : B.1.length ≤ 9) (he : sp_step e B A) (hp : p + 5 ≤ 25 ∨ 32 ≤ p) : ax_N mX6_takeBack 3 0 0 [.ref 25, .ref p] σ (fun r' τ => r' = none ∧ tr_At τ.1 ts ∧ bk_At τ.1 p B.1 B.2 ∧ tb_fr p σ τ) := by
  have hl : (ts ++ [e]).length = ts.length + 1 := by simp
  obtain ⟨fp, fw, ff, ft, fs, fd, T_o, T_places, T_who, T_from, T_to, T_stadia, T_days, hv⟩ := hT
  rw [hl] at T_o
  have hve := hv ts.length (by omega)
  rw [sp_ac_snoc, if_neg (by omega), if_pos rfl] at hve
  have hvt : ∀ i, i < ts.length → tr_e (sp_ac ts i) (fp i) (fw i) (ff i) (ft i) (fs i) (fd i) := fun i hi => by
    have := hv i (by omega)
    rw [sp_ac_snoc, if_pos hi] at this
    exact this
  refine ax_N.of (ls := [some (.ref 25), some (.ref p), none]) (by decide +kernel) rfl (Nat.le_of_ble_eq_true rfl) ?_
  refine ax_aload_n (pc' := 1) rfl dX6_takeBack_0 rfl ?_
  refine ax_getf (pc' := 4) fl_X6_30 T_o rfl dX6_takeBack_1 rfl ?_
  refine ax_if_ne (pc' := 7) (tgt := 8) dX6_takeBack_4 (by decide) rfl (fun _ => ?_) (fun hz => absurd hz (nI_ne0 (by omega) (by omega)))
  refine ax_aload_n (pc' := 9) rfl dX6_takeBack_8 rfl ?_
  refine ax_dup (pc' := 10) rfl dX6_takeBack_9 rfl ?_
  refine ax_getf (pc' := 13) fl_X6_30 T_o rfl dX6_takeBack_10 rfl ?_
  refine ax_iconst (pc' := 14) (v := (nI 1)) kc_1 dX6_takeBack_13 rfl ?_
  refine ax_isub (pc' := 15) dX6_takeBack_14 rfl ?_
  refine ax_topi (v' := nI ts.length) (nI_pred _) ?_
  refine ax_putu (pc' := 18) fp_X6_30 T_o rfl (fun _ => ⟨rfl, rfl⟩) dX6_takeBack_15 rfl (fun s1 h1 => ?_)
  have T_o := ax_kS h1
  have T_places := ax_kN h1 T_places (by omega)
  have T_who := ax_kN h1 T_who (by omega)
  have T_from := ax_kN h1 T_from (by omega)
  have T_to := ax_kN h1 T_to (by omega)
  have T_stadia := ax_kN h1 T_stadia (by omega)
  have T_days := ax_kN h1 T_days (by omega)
  have hF1 : ax_fr 25 7 σ s1 := ax_fr.rf.up h1 (by omega) (by omega)
  have hK := hK.fr hF1 (by omega)
  refine ax_aload_n (pc' := 19) rfl dX6_takeBack_18 rfl ?_
  refine ax_getf (pc' := 22) fl_X6_9 T_o rfl dX6_takeBack_19 rfl ?_
  refine ax_aload_n (pc' := 23) rfl dX6_takeBack_22 rfl ?_
  refine ax_getf (pc' := 26) fl_X6_30 T_o rfl dX6_takeBack_23 rfl ?_
  refine ax_callSR (pc' := 29) ls_X6_44 (c_at T_places h8 (by decide)) rfl rfl (Nat.le_of_ble_eq_true rfl) (Nat.le_of_ble_eq_true rfl) dX6_takeBack_26 rfl ?_
  refine ax_istore_n (pc' := 30) rfl (Nat.le_of_ble_eq_true rfl) dX6_takeBack_29 rfl ?_
  refine ax_iload_n (pc' := 31) rfl dX6_takeBack_30 rfl ?_
  refine ax_iconst (pc' := 32) (v := (-1)) kc_m1 dX6_takeBack_31 rfl ?_
  have K_o : s1.1 p = _ := hK.choose_spec.choose_spec.choose_spec.choose_spec.1
  cases e with
  | inl d =>
    obtain ⟨⟨q, hA1⟩, hA2⟩ := he
    obtain ⟨hv1, hv2⟩ := hve
    refine ax_icmp_ne (pc' := 35) (tgt := 68) dX6_takeBack_32 (by decide) rfl (fun hz => absurd (hv1) hz) (fun _ => ?_)
    refine ax_aload_n (pc' := 36) rfl dX6_takeBack_35 rfl ?_
    refine ax_aload_n (pc' := 37) rfl dX6_takeBack_36 rfl ?_
    refine ax_getf (pc' := 40) fl_X6_51 K_o rfl dX6_takeBack_37 rfl ?_
    refine ax_iconst (pc' := 41) (v := (nI 1)) kc_1 dX6_takeBack_40 rfl ?_
    refine ax_isub (pc' := 42) dX6_takeBack_41 rfl ?_
    have hAl : A.1.length = B.1.length + 1 := by rw [hA1]; simp
    refine ax_topi (v' := nI B.1.length) (by rw [hAl]; exact nI_pred _) ?_
    refine ax_callVG (pc' := 45) lv_X6_52 (c_removeAt hK h9 (by omega)) K_o rfl rfl (Nat.le_of_ble_eq_true rfl) (Nat.le_of_ble_eq_true rfl) dX6_takeBack_42 rfl (fun r σ' hr => ?_)
    obtain ⟨rfl, hK2, hF2⟩ := hr
    rw [hA1, sp_del_end] at hK2
    have T_o := hF2.at T_o (by omega)
    have T_places := hF2.at T_places (by omega)
    have T_who := hF2.at T_who (by omega)
    have T_from := hF2.at T_from (by omega)
    have T_to := hF2.at T_to (by omega)
    have T_stadia := hF2.at T_stadia (by omega)
    have T_days := hF2.at T_days (by omega)
    obtain ⟨gw, gf, gt, gs, K_o, K_who, K_from, K_to, K_stadia, hg⟩ := hK2
    refine ax_aload_n (pc' := 46) rfl dX6_takeBack_45 rfl ?_
    refine ax_dup (pc' := 47) rfl dX6_takeBack_46 rfl ?_
    refine ax_getf (pc' := 50) fl_X6_56 K_o rfl dX6_takeBack_47 rfl ?_
    refine ax_aload_n (pc' := 51) rfl dX6_takeBack_50 rfl ?_
    refine ax_getf (pc' := 54) fl_X6_27 T_o rfl dX6_takeBack_51 rfl ?_
    refine ax_aload_n (pc' := 55) rfl dX6_takeBack_54 rfl ?_
    refine ax_getf (pc' := 58) fl_X6_30 T_o rfl dX6_takeBack_55 rfl ?_
    refine ax_callSR (pc' := 61) ls_X6_44 (c_at T_days h8 (by decide)) rfl rfl (Nat.le_of_ble_eq_true rfl) (Nat.le_of_ble_eq_true rfl) dX6_takeBack_58 rfl ?_
    refine ax_isub (pc' := 62) dX6_takeBack_61 rfl ?_
    refine ax_topi (v' := nI B.2) (by rw [hv2, hA2, ← nI_add, Int32.add_sub_cancel]) ?_
    refine ax_putu (pc' := 65) fp_X6_56 K_o rfl (fun _ => ⟨rfl, rfl⟩) dX6_takeBack_62 rfl (fun s3 h3 => ?_)
    have K_o := ax_kS h3
    have K_who := ax_kN h3 K_who (by omega)
    have K_from := ax_kN h3 K_from (by omega)
    have K_to := ax_kN h3 K_to (by omega)
    have K_stadia := ax_kN h3 K_stadia (by omega)
    have T_o := ax_kN h3 T_o (by omega)
    have T_places := ax_kN h3 T_places (by omega)
    have T_who := ax_kN h3 T_who (by omega)
    have T_from := ax_kN h3 T_from (by omega)
    have T_to := ax_kN h3 T_to (by omega)
    have T_stadia := ax_kN h3 T_stadia (by omega)
    have T_days := ax_kN h3 T_days (by omega)
    refine ax_goto (tgt := 117) dX6_takeBack_65 (by decide) ?_
    exact ax_vret dX6_takeBack_117 rfl (Nat.le_of_ble_eq_true rfl) (Nat.le_of_ble_eq_true rfl) (⟨rfl, ⟨_, _, _, _, _, _, T_o, T_places, T_who, T_from, T_to, T_stadia, T_days, hvt⟩, ⟨gw, gf, gt, gs, K_o, K_who, K_from, K_to, K_stadia, hg⟩, (ax_k2 h3).trans (hF2.1.trans hF1.1), fun z z1 z2 => (ax_kF h3 (by omega)).trans ((hF2.2 z z2).trans (hF1.2 z z1))⟩)
  | inr q =>
    obtain ⟨r, q⟩ := q
    obtain ⟨hr1, hq, hA1, hA2⟩ := he
    have hr1 : r < B.1.length := hr1
    obtain ⟨v0, v1, v2, v3, v4⟩ := hve
    have hAl : A.1.length = B.1.length - 1 := by rw [hA1]; exact sp_del_len hr1
    refine ax_icmp_ne (pc' := 35) (tgt := 68) dX6_takeBack_32 (by decide) rfl (fun _ => ?_) (fun hz => absurd hz (fun h => nI_pos (n := r) (by omega) (by rw [← v0, h]; decide)))
    refine ax_aload_n (pc' := 69) rfl dX6_takeBack_68 rfl ?_
    refine ax_iload_n (pc' := 70) rfl dX6_takeBack_69 rfl ?_
    refine ax_aload_n (pc' := 71) rfl dX6_takeBack_70 rfl ?_
    refine ax_getf (pc' := 74) fl_X6_15 T_o rfl dX6_takeBack_71 rfl ?_
    refine ax_aload_n (pc' := 75) rfl dX6_takeBack_74 rfl ?_
    refine ax_getf (pc' := 78) fl_X6_30 T_o rfl dX6_takeBack_75 rfl ?_
    refine ax_callSR (pc' := 81) ls_X6_44 (c_at T_who h8 (by decide)) rfl rfl (Nat.le_of_ble_eq_true rfl) (Nat.le_of_ble_eq_true rfl) dX6_takeBack_78 rfl ?_
    refine ax_topi v1 ?_
    refine ax_aload_n (pc' := 82) rfl dX6_takeBack_81 rfl ?_
    refine ax_getf (pc' := 85) fl_X6_18 T_o rfl dX6_takeBack_82 rfl ?_
    refine ax_aload_n (pc' := 86) rfl dX6_takeBack_85 rfl ?_
    refine ax_getf (pc' := 89) fl_X6_30 T_o rfl dX6_takeBack_86 rfl ?_
    refine ax_callSR (pc' := 92) ls_X6_44 (c_at T_from h8 (by decide)) rfl rfl (Nat.le_of_ble_eq_true rfl) (Nat.le_of_ble_eq_true rfl) dX6_takeBack_89 rfl ?_
    refine ax_topi v2 ?_
    refine ax_aload_n (pc' := 93) rfl dX6_takeBack_92 rfl ?_
    refine ax_getf (pc' := 96) fl_X6_21 T_o rfl dX6_takeBack_93 rfl ?_
    refine ax_aload_n (pc' := 97) rfl dX6_takeBack_96 rfl ?_
    refine ax_getf (pc' := 100) fl_X6_30 T_o rfl dX6_takeBack_97 rfl ?_
    refine ax_callSR (pc' := 103) ls_X6_44 (c_at T_to h8 (by decide)) rfl rfl (Nat.le_of_ble_eq_true rfl) (Nat.le_of_ble_eq_true rfl) dX6_takeBack_100 rfl ?_
    refine ax_topi v3 ?_
    refine ax_aload_n (pc' := 104) rfl dX6_takeBack_103 rfl ?_
    refine ax_getf (pc' := 107) fl_X6_24 T_o rfl dX6_takeBack_104 rfl ?_
    refine ax_aload_n (pc' := 108) rfl dX6_takeBack_107 rfl ?_
    refine ax_getf (pc' := 111) fl_X6_30 T_o rfl dX6_takeBack_108 rfl ?_
    refine ax_callSR (pc' := 114) ls_X6_44 (c_at T_stadia h8 (by decide)) rfl rfl (Nat.le_of_ble_eq_true rfl) (Nat.le_of_ble_eq_true rfl) dX6_takeBack_111 rfl ?_
    refine ax_topi v4 ?_
    rw [v0]
    refine ax_callVG (pc' := 117) lv_X6_58 (c_insertAt (r := r) (w := q.1) (a := q.2.1) (c := q.2.2.1) (n := q.2.2.2) hK (by omega) (by omega)) K_o rfl rfl (Nat.le_of_ble_eq_true rfl) (Nat.le_of_ble_eq_true rfl) dX6_takeBack_114 rfl (fun r σ' hr => ?_)
    obtain ⟨rfl, hK2, hF2⟩ := hr
    have e1 : sp_ins A.1 r (q.1, q.2.1, q.2.2.1, q.2.2.2) = B.1 := by
      have hq' : q = sp_at B.1 r := hq
      rw [hA1, hq']
      exact sp_ins_del hr1
    rw [e1, hA2] at hK2
    have T_o := hF2.at T_o (by omega)
    have T_places := hF2.at T_places (by omega)
    have T_who := hF2.at T_who (by omega)
    have T_from := hF2.at T_from (by omega)
    have T_to := hF2.at T_to (by omega)
    have T_stadia := hF2.at T_stadia (by omega)
    have T_days := hF2.at T_days (by omega)
    exact ax_vret dX6_takeBack_117 rfl (Nat.le_of_ble_eq_true rfl) (Nat.le_of_ble_eq_true rfl) (⟨rfl, ⟨_, _, _, _, _, _, T_o, T_places, T_who, T_from, T_to, T_stadia, T_days, hvt⟩, hK2, hF2.1.trans hF1.1, fun z z1 z2 => (hF2.2 z z2).trans (hF1.2 z z1)⟩)
/-! ===== Sightings ===== -/
def sg_At (h : ax_H) (ss : List sp_rep) : Prop := ∃ fw ff ft fs : Nat → Int32,
  h 32 = some (.inr (5, [.ref 33, .ref 34, .ref 35, .ref 36, .int (nI ss.length)])) ∧
  h 33 = some (.inl (false, 6, fw)) ∧ h 34 = some (.inl (false, 6, ff)) ∧ h 35 = some (.inl (false, 6, ft)) ∧ h 36 = some (.inl (false, 6, fs)) ∧
  ∀ i, i < ss.length → fw i = nI (sp_at ss i).1 ∧ ff i = nI (sp_at ss i).2.1 ∧ ft i = nI (sp_at ss i).2.2.1 ∧ fs i = nI (sp_at ss i).2.2.2
theorem sg_At.fr {σ τ : ax_S} {q k : Nat} {ss : List sp_rep} (hS : sg_At σ.1 ss) (h : ax_fr q k σ τ) (hd : 37 ≤ q ∨ q + k ≤ 32) : sg_At τ.1 ss := by
  obtain ⟨fw, ff, ft, fs, a1, a2, a3, a4, a5, r⟩ := hS
  exact ⟨fw, ff, ft, fs, h.at a1 (by omega), h.at a2 (by omega), h.at a3 (by omega), h.at a4 (by omega), h.at a5 (by omega), r⟩
theorem c_Sightings_clear {σ : ax_S} {ss : List sp_rep} (hS : sg_At σ.1 ss) : ax_N mX5_clear 0 0 0 [.ref 32] σ (fun r τ => r = none ∧ sg_At τ.1 [] ∧ ax_fr 32 5 σ τ) := by
  obtain ⟨fw, ff, ft, fs, S_o, S_who, S_from, S_to, S_stadia, hv⟩ := hS
  refine ax_N.of (ls := [some (.ref 32)]) (by decide +kernel) rfl (Nat.le_of_ble_eq_true rfl) ?_
  refine ax_aload_n (pc' := 1) rfl dX5_clear_0 rfl ?_
  refine ax_iconst (pc' := 2) (v := (nI 0)) kc_0 dX5_clear_1 rfl ?_
  refine ax_putu (pc' := 5) fp_X5_24 S_o rfl (fun _ => ⟨rfl, rfl⟩) dX5_clear_2 rfl (fun s1 h1 => ?_)
  have S_o := ax_kS h1
  have S_who := ax_kN h1 S_who (by omega)
  have S_from := ax_kN h1 S_from (by omega)
  have S_to := ax_kN h1 S_to (by omega)
  have S_stadia := ax_kN h1 S_stadia (by omega)
  exact ax_vret dX5_clear_5 rfl (Nat.le_of_ble_eq_true rfl) (Nat.le_of_ble_eq_true rfl) (⟨rfl, ⟨_, _, _, _, S_o, S_who, S_from, S_to, S_stadia, fun i hi => absurd hi (Nat.not_lt_zero _)⟩, ax_fr.rf.up h1 (by omega) (by omega)⟩)
theorem sp_at_snoc {ss : List sp_rep} {q : sp_rep} {i : Nat} (hi : i < (ss ++ [q]).length) : sp_at (ss ++ [q]) i = if i = ss.length then q else sp_at ss i := by
  simp at hi
  simp only [sp_at, List.getD_eq_getElem?_getD]
  by_cases h : i = ss.length
  · subst h; simp
  · rw [if_neg h, List.getElem?_append_left (by omega)]
theorem c_Sightings_add {σ : ax_S} {w a c n : Nat} {ss : List sp_rep} (hS : sg_At σ.1 ss) (h6 : ss.length < 6) : ax_N mX5_add 1 0 0 [.ref 32, .int (nI w), .int (nI a), .int (nI c), .int (nI n)] σ (fun r τ => r = none ∧ sg_At τ.1 (ss ++ [(w, a, c, n)]) ∧ ax_fr 32 5 σ τ) := by
  obtain ⟨fw, ff, ft, fs, S_o, S_who, S_from, S_to, S_stadia, hv⟩ := hS
  refine ax_N.of (ls := [some (.ref 32), some (.int (nI w)), some (.int (nI a)), some (.int (nI c)), some (.int (nI n))]) (by decide +kernel) rfl (Nat.le_of_ble_eq_true rfl) ?_
  refine ax_aload_n (pc' := 1) rfl dX5_add_0 rfl ?_
  refine ax_getf (pc' := 4) fl_X5_24 S_o rfl dX5_add_1 rfl ?_
  refine ax_bipush (pc' := 6) (v := (nI 6)) kb_6 dX5_add_4 rfl ?_
  refine ax_icmp_lt (pc' := 9) (tgt := 10) dX5_add_6 (by decide) rfl (fun _ => ?_) (fun hz => absurd (nI_lt h6 (by decide)) hz)
  refine ax_aload_n (pc' := 11) rfl dX5_add_10 rfl ?_
  refine ax_getf (pc' := 14) fl_X5_9 S_o rfl dX5_add_11 rfl ?_
  refine ax_aload_n (pc' := 15) rfl dX5_add_14 rfl ?_
  refine ax_getf (pc' := 18) fl_X5_24 S_o rfl dX5_add_15 rfl ?_
  refine ax_iload_n (pc' := 19) rfl dX5_add_18 rfl ?_
  refine ax_callSU (pc' := 22) ls_X5_28 (c_put S_who h6 (by decide)) rfl rfl (Nat.le_of_ble_eq_true rfl) (Nat.le_of_ble_eq_true rfl) dX5_add_19 rfl (fun s1 h1 => ?_)
  have S_who := ax_kS h1
  have S_o := ax_kN h1 S_o (by omega)
  have S_from := ax_kN h1 S_from (by omega)
  have S_to := ax_kN h1 S_to (by omega)
  have S_stadia := ax_kN h1 S_stadia (by omega)
  refine ax_aload_n (pc' := 23) rfl dX5_add_22 rfl ?_
  refine ax_getf (pc' := 26) fl_X5_15 S_o rfl dX5_add_23 rfl ?_
  refine ax_aload_n (pc' := 27) rfl dX5_add_26 rfl ?_
  refine ax_getf (pc' := 30) fl_X5_24 S_o rfl dX5_add_27 rfl ?_
  refine ax_iload_n (pc' := 31) rfl dX5_add_30 rfl ?_
  refine ax_callSU (pc' := 34) ls_X5_28 (c_put S_from h6 (by decide)) rfl rfl (Nat.le_of_ble_eq_true rfl) (Nat.le_of_ble_eq_true rfl) dX5_add_31 rfl (fun s2 h2 => ?_)
  have S_from := ax_kS h2
  have S_o := ax_kN h2 S_o (by omega)
  have S_who := ax_kN h2 S_who (by omega)
  have S_to := ax_kN h2 S_to (by omega)
  have S_stadia := ax_kN h2 S_stadia (by omega)
  refine ax_aload_n (pc' := 35) rfl dX5_add_34 rfl ?_
  refine ax_getf (pc' := 38) fl_X5_18 S_o rfl dX5_add_35 rfl ?_
  refine ax_aload_n (pc' := 39) rfl dX5_add_38 rfl ?_
  refine ax_getf (pc' := 42) fl_X5_24 S_o rfl dX5_add_39 rfl ?_
  refine ax_iload_n (pc' := 43) rfl dX5_add_42 rfl ?_
  refine ax_callSU (pc' := 46) ls_X5_28 (c_put S_to h6 (by decide)) rfl rfl (Nat.le_of_ble_eq_true rfl) (Nat.le_of_ble_eq_true rfl) dX5_add_43 rfl (fun s3 h3 => ?_)
  have S_to := ax_kS h3
  have S_o := ax_kN h3 S_o (by omega)
  have S_who := ax_kN h3 S_who (by omega)
  have S_from := ax_kN h3 S_from (by omega)
  have S_stadia := ax_kN h3 S_stadia (by omega)
  refine ax_aload_n (pc' := 47) rfl dX5_add_46 rfl ?_
  refine ax_getf (pc' := 50) fl_X5_21 S_o rfl dX5_add_47 rfl ?_
  refine ax_aload_n (pc' := 51) rfl dX5_add_50 rfl ?_
  refine ax_getf (pc' := 54) fl_X5_24 S_o rfl dX5_add_51 rfl ?_
  refine ax_iload (pc' := 56) rfl dX5_add_54 rfl ?_
  refine ax_callSU (pc' := 59) ls_X5_28 (c_put S_stadia h6 (by decide)) rfl rfl (Nat.le_of_ble_eq_true rfl) (Nat.le_of_ble_eq_true rfl) dX5_add_56 rfl (fun s4 h4 => ?_)
  have S_stadia := ax_kS h4
  have S_o := ax_kN h4 S_o (by omega)
  have S_who := ax_kN h4 S_who (by omega)
  have S_from := ax_kN h4 S_from (by omega)
  have S_to := ax_kN h4 S_to (by omega)
  refine ax_aload_n (pc' := 60) rfl dX5_add_59 rfl ?_
  refine ax_dup (pc' := 61) rfl dX5_add_60 rfl ?_
  refine ax_getf (pc' := 64) fl_X5_24 S_o rfl dX5_add_61 rfl ?_
  refine ax_iconst (pc' := 65) (v := (nI 1)) kc_1 dX5_add_64 rfl ?_
  refine ax_iadd (pc' := 66) dX5_add_65 rfl ?_
  refine ax_topi (v' := nI (ss ++ [(w, a, c, n)]).length) (by rw [nI_add]; simp) ?_
  refine ax_putu (pc' := 69) fp_X5_24 S_o rfl (fun _ => ⟨rfl, rfl⟩) dX5_add_66 rfl (fun s5 h5 => ?_)
  have S_o := ax_kS h5
  have S_who := ax_kN h5 S_who (by omega)
  have S_from := ax_kN h5 S_from (by omega)
  have S_to := ax_kN h5 S_to (by omega)
  have S_stadia := ax_kN h5 S_stadia (by omega)
  refine ax_vret dX5_add_69 rfl (Nat.le_refl 0) (Nat.le_refl 0) ⟨rfl, ⟨_, _, _, _, S_o, S_who, S_from, S_to, S_stadia, fun i hi => ?_⟩, ?_⟩
  · rw [sp_at_snoc hi]
    by_cases e : i = ss.length
    · subst e
      simp [upd]
    · have hi2 : i < ss.length := by simp at hi; omega
      simp only [upd, e, if_false]
      exact hv i hi2
  · exact ((((ax_fr.rf.up h1 (by omega) (by omega)).up h2 (by omega) (by omega)).up h3 (by omega) (by omega)).up h4 (by omega) (by omega)).up h5 (by omega) (by omega)
