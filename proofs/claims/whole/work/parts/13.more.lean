/-! ===== GirthReports: walks, fits, chances ===== -/
section XW
variable {σ : ax_S} {pb pq dy : Nat} {k : Int32} {b : sp_B} {rs : List sp_rep}
theorem bk_ok_snoc {w a c n : Nat} (hk : bk_ok b rs) (h9 : rs.length < 9) (hw : w < b.2.2.1) (ha : a < b.2.1) (hc : c < b.2.1) (hn : n ≤ 13300) : bk_ok b (rs ++ [(w, a, c, n)]) := by
  refine ⟨by simp; omega, fun i hi => ?_⟩
  rw [sp_at_snoc hi]
  split
  · exact ⟨hw, ha, hc, hn⟩
  · rename_i h
    simp at hi
    exact hk.2 i (by omega)
theorem bk_ok_del {r : Nat} (hk : bk_ok b rs) (hr : r < rs.length) : bk_ok b (sp_del rs r) := by
  have hl := sp_del_len hr
  refine ⟨by have := hk.1; omega, fun i hi => ?_⟩
  rw [hl] at hi
  rw [sp_at_del hr]
  split
  · exact hk.2 i (by omega)
  · exact hk.2 (i + 1) (by omega)
/-- a walk's report -/
def sp_wk (b : sp_B) (rs : List sp_rep) (w a c : Nat) : sp_rep := (w, a, c, sp_told b rs w a c (sp_K b w) (sp_U b w))
theorem c_goWalking {p w a c : Nat} (hX : xq_At σ.1 pb pq k b) (hK : bk_At σ.1 p rs dy) (hk : bk_ok b rs) (h9 : rs.length < 9) (hw : w < b.2.2.1) (ha : a < b.2.1) (hc : c < b.2.1) (hp0 : 1 ≤ p) (hp : p + 5 ≤ 40) : ax_N mX7_goWalking 4 0 0 [.ref 0, .ref p, .int (nI w), .int (nI a), .int (nI c)] σ (bk_Po p σ (rs ++ [sp_wk b rs w a c]) (dy + sp_days b w a c)) := by
  have hX0 := hX
  obtain ⟨X_o, ⟨fr, hB, hrd⟩, hb, hp4⟩ := hX
  obtain ⟨fl, fn, fb, fk, fp, fu, B_o, B_lies, B_leans, B_bends, B_roads, B_kinds, B_paces, B_units, r1, r2, r3⟩ := id hB
  have K_o : σ.1 p = _ := hK.choose_spec.choose_spec.choose_spec.choose_spec.1
  have h4 := hb.2.2.1
  obtain ⟨k1, k2, k3, k4, k5⟩ := hb.2.2.2.2.2 w
  obtain ⟨e1, e2, e3⟩ := r3 w hw
  refine ax_N.of (ls := [some (.ref 0), some (.ref p), some (.int (nI w)), some (.int (nI a)), some (.int (nI c))]) (by decide +kernel) rfl (Nat.le_of_ble_eq_true rfl) ?_
  refine ax_aload_n (pc' := 1) rfl dX7_goWalking_0 rfl ?_
  refine ax_iload_n (pc' := 2) rfl dX7_goWalking_1 rfl ?_
  refine ax_iload_n (pc' := 3) rfl dX7_goWalking_2 rfl ?_
  refine ax_iload (pc' := 5) rfl dX7_goWalking_3 rfl ?_
  refine ax_aload_n (pc' := 6) rfl dX7_goWalking_5 rfl ?_
  refine ax_aload_n (pc' := 7) rfl dX7_goWalking_6 rfl ?_
  refine ax_iload_n (pc' := 8) rfl dX7_goWalking_7 rfl ?_
  refine ax_iload_n (pc' := 9) rfl dX7_goWalking_8 rfl ?_
  refine ax_iload (pc' := 11) rfl dX7_goWalking_9 rfl ?_
  refine ax_aload_n (pc' := 12) rfl dX7_goWalking_11 rfl ?_
  refine ax_getf (pc' := 15) fl_X7_63 X_o rfl dX7_goWalking_12 rfl ?_
  refine ax_getf (pc' := 18) fl_X7_145 B_o rfl dX7_goWalking_15 rfl ?_
  refine ax_iload_n (pc' := 19) rfl dX7_goWalking_18 rfl ?_
  refine ax_callSL (pc' := 22) ls_X7_120 lk_X7_120 (by decide) (c_at B_kinds (j := w) (by omega) (by decide)) rfl rfl (Nat.le_of_ble_eq_true rfl) (Nat.le_of_ble_eq_true rfl) dX7_goWalking_19 rfl (Nat.le_refl 0) (Nat.le_refl 0) ?_
  refine ax_topi e1 ?_
  refine ax_aload_n (pc' := 23) rfl dX7_goWalking_22 rfl ?_
  refine ax_getf (pc' := 26) fl_X7_63 X_o rfl dX7_goWalking_23 rfl ?_
  refine ax_getf (pc' := 29) fl_X7_151 B_o rfl dX7_goWalking_26 rfl ?_
  refine ax_iload_n (pc' := 30) rfl dX7_goWalking_29 rfl ?_
  refine ax_callSL (pc' := 33) ls_X7_120 lk_X7_120 (by decide) (c_at B_units (j := w) (by omega) (by decide)) rfl rfl (Nat.le_of_ble_eq_true rfl) (Nat.le_of_ble_eq_true rfl) dX7_goWalking_30 rfl (Nat.le_refl 0) (Nat.le_refl 0) ?_
  refine ax_topi e3 ?_
  refine ax_callVR (pc' := 36) lv_X7_292 (c_wouldTell hX0 hK hk hw ha hc k1 (by omega) k5) X_o rfl rfl (Nat.le_of_ble_eq_true rfl) (Nat.le_of_ble_eq_true rfl) dX7_goWalking_33 rfl ?_
  refine ax_callVG (pc' := 39) lv_X7_313 (c_Book_add hK h9) K_o rfl rfl (Nat.le_of_ble_eq_true rfl) (Nat.le_of_ble_eq_true rfl) dX7_goWalking_36 rfl (fun r σ' hr => ?_)
  obtain ⟨rfl, hK2, hF⟩ := hr
  have hX2 := hX0.fr hF hp0 hp
  have X_o := hX2.1
  have B_o := hF.at B_o (by omega)
  obtain ⟨gw, gf, gt, gs, K_o, K_who, K_from, K_to, K_stadia, hg⟩ := hK2
  refine ax_aload_n (pc' := 40) rfl dX7_goWalking_39 rfl ?_
  refine ax_dup (pc' := 41) rfl dX7_goWalking_40 rfl ?_
  refine ax_getf (pc' := 44) fl_X7_279 K_o rfl dX7_goWalking_41 rfl ?_
  refine ax_aload_n (pc' := 45) rfl dX7_goWalking_44 rfl ?_
  refine ax_getf (pc' := 48) fl_X7_63 X_o rfl dX7_goWalking_45 rfl ?_
  refine ax_iload_n (pc' := 49) rfl dX7_goWalking_48 rfl ?_
  refine ax_iload_n (pc' := 50) rfl dX7_goWalking_49 rfl ?_
  refine ax_iload (pc' := 52) rfl dX7_goWalking_50 rfl ?_
  refine ax_callVR (pc' := 55) lv_X7_185 (c_daysOf hX2.2.1 hb hw ha hc) B_o rfl rfl (Nat.le_of_ble_eq_true rfl) (Nat.le_of_ble_eq_true rfl) dX7_goWalking_52 rfl ?_
  refine ax_iadd (pc' := 56) dX7_goWalking_55 rfl ?_
  refine ax_topi (nI_add _ _) ?_
  refine ax_putu (pc' := 59) fp_X7_279 K_o rfl (fun _ => ⟨rfl, rfl⟩) dX7_goWalking_56 rfl (fun s1 h1 => ?_)
  have K_o := ax_kS h1
  have K_who := ax_kN h1 K_who (by omega)
  have K_from := ax_kN h1 K_from (by omega)
  have K_to := ax_kN h1 K_to (by omega)
  have K_stadia := ax_kN h1 K_stadia (by omega)
  exact ax_vret dX7_goWalking_59 rfl (Nat.le_of_ble_eq_true rfl) (Nat.le_of_ble_eq_true rfl) (⟨rfl, ⟨gw, gf, gt, gs, K_o, K_who, K_from, K_to, K_stadia, hg⟩, hF.up h1 (by omega) (by omega)⟩)
/-- reports and days behind a walk by draw d -/
def sp_wd (b : sp_B) (B : List sp_rep × Nat) (d : Nat) : List sp_rep × Nat :=
  if d / 4 % b.2.1 = d / 32 % b.2.1 then B
  else
    ((if B.1.length < 9 then B.1 else sp_del B.1 0) ++ [sp_wk b (if B.1.length < 9 then B.1 else sp_del B.1 0) (d % b.2.2.1) (d / 4 % b.2.1) (d / 32 % b.2.1)], B.2 + sp_days b (d % b.2.2.1) (d / 4 % b.2.1) (d / 32 % b.2.1))
theorem sp_wd_ok {B : List sp_rep × Nat} {d : Nat} (hb : sp_ok b) (hk : bk_ok b B.1) (ht : 2 ≤ b.2.1) (hw : 1 ≤ b.2.2.1) : bk_ok b (sp_wd b B d).1 := by
  unfold sp_wd
  split
  · exact hk
  · have h1 : bk_ok b (if B.1.length < 9 then B.1 else sp_del B.1 0) ∧ (if B.1.length < 9 then B.1 else sp_del B.1 0).length < 9 := by
      have := hk.1
      split
      · exact ⟨hk, by assumption⟩
      · exact ⟨bk_ok_del hk (by omega), by rw [sp_del_len (by omega)]; omega⟩
    exact bk_ok_snoc h1.1 h1.2 (Nat.mod_lt _ (by omega)) (Nat.mod_lt _ (by omega)) (Nat.mod_lt _ (by omega)) (sp_told_le hb h1.1 (by have := (hb.2.2.2.2.2 (d % b.2.2.1)).2.2.2.1; omega))
theorem c_walkByDraw {p d : Nat} (hX : xq_At σ.1 pb pq k b) (hK : bk_At σ.1 p rs dy) (hk : bk_ok b rs) (ht : 2 ≤ b.2.1) (hw : 1 ≤ b.2.2.1) (hd : d < 65521) (hp0 : 1 ≤ p) (hp : p + 5 ≤ 40) : ax_N mX7_walkByDraw 5 0 0 [.ref 0, .ref p, .int (nI d)] σ (bk_Po p σ (sp_wd b (rs, dy) d).1 (sp_wd b (rs, dy) d).2) := by
  have hX0 := hX
  obtain ⟨X_o, ⟨fr, hB, hrd⟩, hb, hp4⟩ := hX
  have B_o : σ.1 pb = _ := hB.choose_spec.choose_spec.choose_spec.choose_spec.choose_spec.choose_spec.1
  have K_o : σ.1 p = _ := hK.choose_spec.choose_spec.choose_spec.choose_spec.1
  have h6 := hb.2.1
  have h4 := hb.2.2.1
  have m1 := Nat.mod_lt d (show 0 < b.2.2.1 by omega)
  have m2 := Nat.mod_lt (d / 4) (show 0 < b.2.1 by omega)
  have m3 := Nat.mod_lt (d / 32) (show 0 < b.2.1 by omega)
  refine ax_N.of (ls := [some (.ref 0), some (.ref p), some (.int (nI d)), none, none, none]) (by decide +kernel) rfl (Nat.le_of_ble_eq_true rfl) ?_
  refine ax_iload_n (pc' := 1) rfl dX7_walkByDraw_0 rfl ?_
  refine ax_aload_n (pc' := 2) rfl dX7_walkByDraw_1 rfl ?_
  refine ax_getf (pc' := 5) fl_X7_63 X_o rfl dX7_walkByDraw_2 rfl ?_
  refine ax_getf (pc' := 8) fl_X7_106 B_o rfl dX7_walkByDraw_5 rfl ?_
  refine ax_callSR (pc' := 11) ls_X7_321 (c_rest (a := d) (d := b.2.2.1) (by omega) (by omega) (by omega)) rfl rfl (Nat.le_of_ble_eq_true rfl) (Nat.le_of_ble_eq_true rfl) dX7_walkByDraw_8 rfl ?_
  refine ax_istore_n (pc' := 12) rfl (Nat.le_of_ble_eq_true rfl) dX7_walkByDraw_11 rfl ?_
  refine ax_iload_n (pc' := 13) rfl dX7_walkByDraw_12 rfl ?_
  refine ax_iconst (pc' := 14) (v := (nI 4)) kc_4 dX7_walkByDraw_13 rfl ?_
  refine ax_idiv (pc' := 15) (by decide) dX7_walkByDraw_14 rfl ?_
  refine ax_topi (pk_div (a := d) (d := 4) (by omega) (by decide) (by decide)) ?_
  refine ax_aload_n (pc' := 16) rfl dX7_walkByDraw_15 rfl ?_
  refine ax_getf (pc' := 19) fl_X7_63 X_o rfl dX7_walkByDraw_16 rfl ?_
  refine ax_getf (pc' := 22) fl_X7_103 B_o rfl dX7_walkByDraw_19 rfl ?_
  refine ax_callSR (pc' := 25) ls_X7_321 (c_rest (a := d / 4) (d := b.2.1) (by omega) (by omega) (by omega)) rfl rfl (Nat.le_of_ble_eq_true rfl) (Nat.le_of_ble_eq_true rfl) dX7_walkByDraw_22 rfl ?_
  refine ax_istore (pc' := 27) rfl (Nat.le_of_ble_eq_true rfl) dX7_walkByDraw_25 rfl ?_
  refine ax_iload_n (pc' := 28) rfl dX7_walkByDraw_27 rfl ?_
  refine ax_bipush (pc' := 30) (v := (nI 32)) kb_32 dX7_walkByDraw_28 rfl ?_
  refine ax_idiv (pc' := 31) (by decide) dX7_walkByDraw_30 rfl ?_
  refine ax_topi (pk_div (a := d) (d := 32) (by omega) (by decide) (by decide)) ?_
  refine ax_aload_n (pc' := 32) rfl dX7_walkByDraw_31 rfl ?_
  refine ax_getf (pc' := 35) fl_X7_63 X_o rfl dX7_walkByDraw_32 rfl ?_
  refine ax_getf (pc' := 38) fl_X7_103 B_o rfl dX7_walkByDraw_35 rfl ?_
  refine ax_callSR (pc' := 41) ls_X7_321 (c_rest (a := d / 32) (d := b.2.1) (by omega) (by omega) (by omega)) rfl rfl (Nat.le_of_ble_eq_true rfl) (Nat.le_of_ble_eq_true rfl) dX7_walkByDraw_38 rfl ?_
  refine ax_istore (pc' := 43) rfl (Nat.le_of_ble_eq_true rfl) dX7_walkByDraw_41 rfl ?_
  refine ax_iload (pc' := 45) rfl dX7_walkByDraw_43 rfl ?_
  refine ax_iload (pc' := 47) rfl dX7_walkByDraw_45 rfl ?_
  by_cases he : d / 4 % b.2.1 = d / 32 % b.2.1
  · refine ax_icmp_ne (pc' := 50) (tgt := 51) dX7_walkByDraw_47 (by decide) rfl (fun hz => absurd (by rw [he]) hz) (fun _ => ?_)
    exact ax_vret dX7_walkByDraw_50 rfl (Nat.le_of_ble_eq_true rfl) (Nat.le_of_ble_eq_true rfl) (⟨rfl, by simp only [sp_wd, he, if_true]; exact hK, ax_fr.rf⟩)
  · refine ax_icmp_ne (pc' := 50) (tgt := 51) dX7_walkByDraw_47 (by decide) rfl (fun _ => ?_) (fun hz => absurd hz (fun h => he ((nI_eq (by omega) (by omega)).mp h)))
    refine ax_aload_n (pc' := 52) rfl dX7_walkByDraw_51 rfl ?_
    refine ax_getf (pc' := 55) fl_X7_178 K_o rfl dX7_walkByDraw_52 rfl ?_
    refine ax_bipush (pc' := 57) (v := (nI 9)) kb_9 dX7_walkByDraw_55 rfl ?_
    have E : ∀ (τ : ax_S) (rs' : List sp_rep), rs' = (if rs.length < 9 then rs else sp_del rs 0) → bk_ok b rs' → rs'.length < 9 → bk_At τ.1 p rs' dy → ax_fr p 5 σ τ → ax_J (mX7_walkByDraw, 5, 0, 0) 0 0 65 [some (.ref 0), some (.ref p), some (.int (nI d)), some (.int (nI (d % b.2.2.1))), some (.int (nI (d / 4 % b.2.1))), some (.int (nI (d / 32 % b.2.1)))] [] τ (bk_Po p σ (sp_wd b (rs, dy) d).1 (sp_wd b (rs, dy) d).2) := by
      intro τ rs' hrs' hk' h9' hK' hF
      have hX2 := hX0.fr hF hp0 hp
      have X_o := hX2.1
      refine ax_aload_n (pc' := 66) rfl dX7_walkByDraw_65 rfl ?_
      refine ax_aload_n (pc' := 67) rfl dX7_walkByDraw_66 rfl ?_
      refine ax_iload_n (pc' := 68) rfl dX7_walkByDraw_67 rfl ?_
      refine ax_iload (pc' := 70) rfl dX7_walkByDraw_68 rfl ?_
      refine ax_iload (pc' := 72) rfl dX7_walkByDraw_70 rfl ?_
      refine ax_callVG (pc' := 75) lv_X7_181 (c_goWalking hX2 hK' hk' h9' m1 m2 m3 hp0 hp) X_o rfl rfl (Nat.le_of_ble_eq_true rfl) (Nat.le_of_ble_eq_true rfl) dX7_walkByDraw_72 rfl (fun r σ' hr => ?_)
      obtain ⟨rfl, hK3, hF3⟩ := hr
      exact ax_vret dX7_walkByDraw_75 rfl (Nat.le_of_ble_eq_true rfl) (Nat.le_of_ble_eq_true rfl) (⟨rfl, by simp only [sp_wd, he, if_false, ← hrs']; exact hK3, hF.tr hF3 (by omega) (by omega)⟩)
    by_cases h9 : rs.length < 9
    · refine ax_icmp_lt (pc' := 60) (tgt := 65) dX7_walkByDraw_57 (by decide) rfl (fun _ => ?_) (fun hz => absurd (nI_lt h9 (by decide)) hz)
      exact E σ rs (by rw [if_pos h9]) hk h9 hK ax_fr.rf
    · have h9e := hk.1
      refine ax_icmp_lt (pc' := 60) (tgt := 65) dX7_walkByDraw_57 (by decide) rfl (fun hz => absurd hz (nI_nlt (by omega) (by omega))) (fun _ => ?_)
      refine ax_aload_n (pc' := 61) rfl dX7_walkByDraw_60 rfl ?_
      refine ax_iconst (pc' := 62) (v := (nI 0)) kc_0 dX7_walkByDraw_61 rfl ?_
      refine ax_callVG (pc' := 65) lv_X7_196 (c_removeAt hK h9e (r := 0) (by omega)) K_o rfl rfl (Nat.le_of_ble_eq_true rfl) (Nat.le_of_ble_eq_true rfl) dX7_walkByDraw_62 rfl (fun r σ' hr => ?_)
      obtain ⟨rfl, hK3, hF3⟩ := hr
      exact E σ' (sp_del rs 0) (by rw [if_neg h9]) (bk_ok_del hk (by omega)) (by rw [sp_del_len (by omega)]; omega) hK3 hF3
/-- all that is seen of w among the first i would be so, by that kind and unit -/
def sp_fit (b : sp_B) (rs ss : List sp_rep) (w kd u : Nat) : Nat → Bool
  | 0 => true
  | i + 1 => sp_fit b rs ss w kd u i && (decide ((sp_at ss i).1 ≠ w) || decide (sp_told b rs w (sp_at ss i).2.1 (sp_at ss i).2.2.1 kd u = (sp_at ss i).2.2.2))
theorem sp_fit_no {ss : List sp_rep} {w kd u i j : Nat} (h : sp_fit b rs ss w kd u i = false) (hij : i ≤ j) : sp_fit b rs ss w kd u j = false := by
  induction j with
  | zero =>
    have : i = 0 := by omega
    subst this
    exact h
  | succ j ih =>
    by_cases e : i = j + 1
    · subst e; exact h
    · simp only [sp_fit, ih (by omega), Bool.false_and]
def sg_ok (b : sp_B) (ss : List sp_rep) : Prop := ss.length ≤ 6 ∧ ∀ i, i < ss.length → (sp_at ss i).1 < b.2.2.1 ∧ (sp_at ss i).2.1 < b.2.1 ∧ (sp_at ss i).2.2.1 < b.2.1 ∧ (sp_at ss i).2.2.2 ≤ 9999
theorem c_allSeenFits {ss : List sp_rep} {w kd u : Nat} (hX : xq_At σ.1 pb pq k b) (hK : bk_At σ.1 5 rs dy) (hk : bk_ok b rs) (hS : sg_At σ.1 ss) (hs : sg_ok b ss) (hw : w < b.2.2.1) (hkd : kd ≤ 3) (h0 : 0 < u) (hu : u ≤ 9) : ax_R mX7_allSeenFits 4 [.ref 0, .int (nI w), .int (nI kd), .int (nI u)] σ (.int (nI (sp_bl (sp_fit b rs ss w kd u ss.length)))) := by
  have hX0 := hX
  obtain ⟨X_o, hB, hb, hp4⟩ := hX
  have K_o : σ.1 5 = _ := hK.choose_spec.choose_spec.choose_spec.choose_spec.1
  obtain ⟨fw, ff, ft, fs, S_o, S_who, S_from, S_to, S_stadia, hv⟩ := hS
  have h6 := hs.1
  have h4 := hb.2.2.1
  refine ax_N.of (ls := [some (.ref 0), some (.int (nI w)), some (.int (nI kd)), some (.int (nI u)), none, none]) (by decide +kernel) rfl (Nat.le_of_ble_eq_true rfl) ?_
  refine ax_iconst (pc' := 1) (v := (nI 0)) kc_0 dX7_allSeenFits_0 rfl ?_
  refine ax_istore (pc' := 3) rfl (Nat.le_of_ble_eq_true rfl) dX7_allSeenFits_1 rfl ?_
  have K : ∀ m i (z : Option Value), i + m = ss.length → sp_fit b rs ss w kd u i = true → ax_J (mX7_allSeenFits, 4, 0, 0) 0 0 3 [some (.ref 0), some (.int (nI w)), some (.int (nI kd)), some (.int (nI u)), some (.int (nI i)), z] [] σ (fun r σ' => r = some (.int (nI (sp_bl (sp_fit b rs ss w kd u ss.length)))) ∧ σ' = σ) := by
    intro m
    induction m with
    | zero =>
      intro i z hi hf
      have hi : i = ss.length := hi
      subst hi
      refine ax_iload (pc' := 5) rfl dX7_allSeenFits_3 rfl ?_
      refine ax_aload_n (pc' := 6) rfl dX7_allSeenFits_5 rfl ?_
      refine ax_getf (pc' := 9) fl_X7_49 X_o rfl dX7_allSeenFits_6 rfl ?_
      refine ax_getf (pc' := 12) fl_X7_247 S_o rfl dX7_allSeenFits_9 rfl ?_
      refine ax_icmp_ge (pc' := 15) (tgt := 93) dX7_allSeenFits_12 (by decide) rfl (fun _ => ?_) (fun hz => absurd (nI_le (Nat.le_refl _) (by omega)) hz)
      refine ax_iconst (pc' := 94) (v := (nI 1)) kc_1 dX7_allSeenFits_93 rfl ?_
      exact ax_zret dX7_allSeenFits_94 rfl (by decide) (Nat.le_of_ble_eq_true rfl) (Nat.le_of_ble_eq_true rfl) (⟨by rw [hf]; rfl, rfl⟩)
    | succ m ih =>
      intro i z hi hf
      have hil : i < ss.length := by omega
      obtain ⟨e0, e1, e2, e3⟩ := hv i hil
      obtain ⟨q0, q1, q2, q3⟩ := hs.2 i hil
      refine ax_iload (pc' := 5) rfl dX7_allSeenFits_3 rfl ?_
      refine ax_aload_n (pc' := 6) rfl dX7_allSeenFits_5 rfl ?_
      refine ax_getf (pc' := 9) fl_X7_49 X_o rfl dX7_allSeenFits_6 rfl ?_
      refine ax_getf (pc' := 12) fl_X7_247 S_o rfl dX7_allSeenFits_9 rfl ?_
      refine ax_icmp_ge (pc' := 15) (tgt := 93) dX7_allSeenFits_12 (by decide) rfl (fun hz => absurd hz (nI_ge hil (by omega))) (fun _ => ?_)
      refine ax_aload_n (pc' := 16) rfl dX7_allSeenFits_15 rfl ?_
      refine ax_getf (pc' := 19) fl_X7_49 X_o rfl dX7_allSeenFits_16 rfl ?_
      refine ax_getf (pc' := 22) fl_X7_317 S_o rfl dX7_allSeenFits_19 rfl ?_
      refine ax_iload (pc' := 24) rfl dX7_allSeenFits_22 rfl ?_
      refine ax_callSR (pc' := 27) ls_X7_120 (c_at S_who (by omega) (by decide)) rfl rfl (Nat.le_of_ble_eq_true rfl) (Nat.le_of_ble_eq_true rfl) dX7_allSeenFits_24 rfl ?_
      refine ax_topi e0 ?_
      refine ax_iload_n (pc' := 28) rfl dX7_allSeenFits_27 rfl ?_
      by_cases hwi : (sp_at ss i).1 = w
      · refine ax_icmp_ne (pc' := 31) (tgt := 87) dX7_allSeenFits_28 (by decide) rfl (fun hz => absurd (by rw [hwi]) hz) (fun _ => ?_)
        refine ax_aload_n (pc' := 32) rfl dX7_allSeenFits_31 rfl ?_
        refine ax_aload_n (pc' := 33) rfl dX7_allSeenFits_32 rfl ?_
        refine ax_getf (pc' := 36) fl_X7_26 X_o rfl dX7_allSeenFits_33 rfl ?_
        refine ax_iload_n (pc' := 37) rfl dX7_allSeenFits_36 rfl ?_
        refine ax_aload_n (pc' := 38) rfl dX7_allSeenFits_37 rfl ?_
        refine ax_getf (pc' := 41) fl_X7_49 X_o rfl dX7_allSeenFits_38 rfl ?_
        refine ax_getf (pc' := 44) fl_X7_318 S_o rfl dX7_allSeenFits_41 rfl ?_
        refine ax_iload (pc' := 46) rfl dX7_allSeenFits_44 rfl ?_
        refine ax_callSR (pc' := 49) ls_X7_120 (c_at S_from (by omega) (by decide)) rfl rfl (Nat.le_of_ble_eq_true rfl) (Nat.le_of_ble_eq_true rfl) dX7_allSeenFits_46 rfl ?_
        refine ax_topi e1 ?_
        refine ax_aload_n (pc' := 50) rfl dX7_allSeenFits_49 rfl ?_
        refine ax_getf (pc' := 53) fl_X7_49 X_o rfl dX7_allSeenFits_50 rfl ?_
        refine ax_getf (pc' := 56) fl_X7_319 S_o rfl dX7_allSeenFits_53 rfl ?_
        refine ax_iload (pc' := 58) rfl dX7_allSeenFits_56 rfl ?_
        refine ax_callSR (pc' := 61) ls_X7_120 (c_at S_to (by omega) (by decide)) rfl rfl (Nat.le_of_ble_eq_true rfl) (Nat.le_of_ble_eq_true rfl) dX7_allSeenFits_58 rfl ?_
        refine ax_topi e2 ?_
        refine ax_iload_n (pc' := 62) rfl dX7_allSeenFits_61 rfl ?_
        refine ax_iload_n (pc' := 63) rfl dX7_allSeenFits_62 rfl ?_
        refine ax_callVR (pc' := 66) lv_X7_292 (c_wouldTell hX0 hK hk hw q1 q2 hkd h0 hu) X_o rfl rfl (Nat.le_of_ble_eq_true rfl) (Nat.le_of_ble_eq_true rfl) dX7_allSeenFits_63 rfl ?_
        have ht := sp_told_le hb hk (w := w) (a := (sp_at ss i).2.1) (c := (sp_at ss i).2.2.1) (kd := kd) (u := u) h0
        refine ax_istore (pc' := 68) rfl (Nat.le_of_ble_eq_true rfl) dX7_allSeenFits_66 rfl ?_
        refine ax_iload (pc' := 70) rfl dX7_allSeenFits_68 rfl ?_
        refine ax_aload_n (pc' := 71) rfl dX7_allSeenFits_70 rfl ?_
        refine ax_getf (pc' := 74) fl_X7_49 X_o rfl dX7_allSeenFits_71 rfl ?_
        refine ax_getf (pc' := 77) fl_X7_320 S_o rfl dX7_allSeenFits_74 rfl ?_
        refine ax_iload (pc' := 79) rfl dX7_allSeenFits_77 rfl ?_
        refine ax_callSR (pc' := 82) ls_X7_120 (c_at S_stadia (by omega) (by decide)) rfl rfl (Nat.le_of_ble_eq_true rfl) (Nat.le_of_ble_eq_true rfl) dX7_allSeenFits_79 rfl ?_
        refine ax_topi e3 ?_
        by_cases heq : sp_told b rs w (sp_at ss i).2.1 (sp_at ss i).2.2.1 kd u = (sp_at ss i).2.2.2
        · refine ax_icmp_eq (pc' := 85) (tgt := 87) dX7_allSeenFits_82 (by decide) rfl (fun _ => ?_) (fun hz => absurd (by rw [heq]) hz)
          refine ax_iinc1 (pc' := 90) rfl rfl (Nat.le_of_ble_eq_true rfl) dX7_allSeenFits_87 rfl ?_
          refine ax_goto (tgt := 3) dX7_allSeenFits_90 (by decide) ?_
          exact ih (i + 1) _ (by omega) (by simp [sp_fit, hf, heq])
        · refine ax_icmp_eq (pc' := 85) (tgt := 87) dX7_allSeenFits_82 (by decide) rfl (fun hz => absurd hz (fun h => heq ((nI_eq (by omega) (by omega)).mp h))) (fun _ => ?_)
          refine ax_iconst (pc' := 86) (v := (nI 0)) kc_0 dX7_allSeenFits_85 rfl ?_
          exact ax_zret dX7_allSeenFits_86 rfl (by decide) (Nat.le_of_ble_eq_true rfl) (Nat.le_of_ble_eq_true rfl) (⟨by rw [sp_fit_no (i := i + 1) (by simp [sp_fit, hf, heq, hwi]) (by omega)]; rfl, rfl⟩)
      · refine ax_icmp_ne (pc' := 31) (tgt := 87) dX7_allSeenFits_28 (by decide) rfl (fun _ => ?_) (fun hz => absurd hz (fun h => hwi ((nI_eq (by omega) (by omega)).mp h)))
        refine ax_iinc1 (pc' := 90) rfl rfl (Nat.le_of_ble_eq_true rfl) dX7_allSeenFits_87 rfl ?_
        refine ax_goto (tgt := 3) dX7_allSeenFits_90 (by decide) ?_
        exact ih (i + 1) _ (by omega) (by simp [sp_fit, hf, hwi])
  exact K ss.length 0 none (Nat.zero_add _) rfl
/-- a set by its places from lo on -/
def sp_set (P : Nat → Bool) (lo : Nat) : Nat → Nat
  | 0 => 0
  | i + 1 => sp_set P lo i + (if lo ≤ i ∧ P i = true then 2 ^ i else 0)
theorem sp_set_lt (P : Nat → Bool) (lo n : Nat) : sp_set P lo n < 2 ^ n := by
  induction n with
  | zero => exact Nat.lt_of_lt_of_le Nat.zero_lt_one (Nat.le_refl 1)
  | succ n ih =>
    simp only [sp_set, Nat.pow_succ]
    split <;> omega
theorem sp_or_ok : ∀ n, n < 10 → ∀ s, s < 2 ^ n → (nI s ||| (nI 1 <<< (nI n &&& 31))) = nI (s + 2 ^ n) := by decide +kernel
theorem c_fittingUnits {ss : List sp_rep} {w : Nat} (hX : xq_At σ.1 pb pq k b) (hK : bk_At σ.1 5 rs dy) (hk : bk_ok b rs) (hS : sg_At σ.1 ss) (hs : sg_ok b ss) (hw : w < b.2.2.1) : ax_R mX7_fittingUnits 5 [.ref 0, .int (nI w)] σ (.int (nI (sp_set (fun u => sp_fit b rs ss w (sp_K b w) u ss.length) 1 10))) := by
  have hX0 := hX
  obtain ⟨X_o, ⟨fr, hB, hrd⟩, hb, hp4⟩ := hX
  obtain ⟨fl, fn, fb, fk, fp, fu, B_o, B_lies, B_leans, B_bends, B_roads, B_kinds, B_paces, B_units, r1, r2, r3⟩ := id hB
  have h4 := hb.2.2.1
  obtain ⟨k1, k2, k3, k4, k5⟩ := hb.2.2.2.2.2 w
  obtain ⟨e1, e2, e3⟩ := r3 w hw
  obtain ⟨P, hP⟩ : ∃ P : Nat → Bool, P = (fun u => sp_fit b rs ss w (sp_K b w) u ss.length) := ⟨_, rfl⟩
  rw [← hP]
  refine ax_N.of (ls := [some (.ref 0), some (.int (nI w)), none, none]) (by decide +kernel) rfl (Nat.le_of_ble_eq_true rfl) ?_
  refine ax_iconst (pc' := 1) (v := (nI 0)) kc_0 dX7_fittingUnits_0 rfl ?_
  refine ax_istore_n (pc' := 2) rfl (Nat.le_of_ble_eq_true rfl) dX7_fittingUnits_1 rfl ?_
  refine ax_iconst (pc' := 3) (v := (nI 1)) kc_1 dX7_fittingUnits_2 rfl ?_
  refine ax_istore_n (pc' := 4) rfl (Nat.le_of_ble_eq_true rfl) dX7_fittingUnits_3 rfl ?_
  have K : ∀ m i, i + m = 10 → 1 ≤ i → ax_J (mX7_fittingUnits, 5, 0, 0) 0 0 4 [some (.ref 0), some (.int (nI w)), some (.int (nI (sp_set P 1 i))), some (.int (nI i))] [] σ (fun r σ' => r = some (.int (nI (sp_set P 1 10))) ∧ σ' = σ) := by
    intro m
    induction m with
    | zero =>
      intro i hi h1
      have hi : i = 10 := hi
      subst hi
      refine ax_iload_n (pc' := 5) rfl dX7_fittingUnits_4 rfl ?_
      refine ax_bipush (pc' := 7) (v := (nI 9)) kb_9 dX7_fittingUnits_5 rfl ?_
      refine ax_icmp_gt (pc' := 10) (tgt := 42) dX7_fittingUnits_7 (by decide) rfl (fun _ => ?_) (fun hz => absurd ((by decide)) hz)
      refine ax_iload_n (pc' := 43) rfl dX7_fittingUnits_42 rfl ?_
      exact ax_iret dX7_fittingUnits_43 rfl (Nat.le_of_ble_eq_true rfl) (Nat.le_of_ble_eq_true rfl) (⟨rfl, rfl⟩)
    | succ m ih =>
      intro i hi h1
      refine ax_iload_n (pc' := 5) rfl dX7_fittingUnits_4 rfl ?_
      refine ax_bipush (pc' := 7) (v := (nI 9)) kb_9 dX7_fittingUnits_5 rfl ?_
      refine ax_icmp_gt (pc' := 10) (tgt := 42) dX7_fittingUnits_7 (by decide) rfl (fun hz => absurd hz (nI_nlt (by omega) (by omega))) (fun _ => ?_)
      refine ax_aload_n (pc' := 11) rfl dX7_fittingUnits_10 rfl ?_
      refine ax_iload_n (pc' := 12) rfl dX7_fittingUnits_11 rfl ?_
      refine ax_aload_n (pc' := 13) rfl dX7_fittingUnits_12 rfl ?_
      refine ax_getf (pc' := 16) fl_X7_63 X_o rfl dX7_fittingUnits_13 rfl ?_
      refine ax_getf (pc' := 19) fl_X7_145 B_o rfl dX7_fittingUnits_16 rfl ?_
      refine ax_iload_n (pc' := 20) rfl dX7_fittingUnits_19 rfl ?_
      refine ax_callSR (pc' := 23) ls_X7_120 (c_at B_kinds (by omega) (by decide)) rfl rfl (Nat.le_of_ble_eq_true rfl) (Nat.le_of_ble_eq_true rfl) dX7_fittingUnits_20 rfl ?_
      refine ax_topi e1 ?_
      refine ax_iload_n (pc' := 24) rfl dX7_fittingUnits_23 rfl ?_
      refine ax_callVR (pc' := 27) lv_X7_314 (c_allSeenFits (u := i) hX0 hK hk hS hs hw k1 (by omega) (by omega)) X_o rfl rfl (Nat.le_of_ble_eq_true rfl) (Nat.le_of_ble_eq_true rfl) dX7_fittingUnits_24 rfl ?_
      by_cases hp : P i = true
      · refine ax_if_eq (pc' := 30) (tgt := 36) dX7_fittingUnits_27 (by decide) rfl (fun hz => absurd hz (by rw [show sp_fit b rs ss w (sp_K b w) i ss.length = true by rw [hP] at hp; exact hp]; exact kz_1)) (fun _ => ?_)
        refine ax_iload_n (pc' := 31) rfl dX7_fittingUnits_30 rfl ?_
        refine ax_iconst (pc' := 32) (v := (nI 1)) kc_1 dX7_fittingUnits_31 rfl ?_
        refine ax_iload_n (pc' := 33) rfl dX7_fittingUnits_32 rfl ?_
        refine ax_ishl (pc' := 34) dX7_fittingUnits_33 rfl ?_
        refine ax_ior (pc' := 35) dX7_fittingUnits_34 rfl ?_
        refine ax_topi (v' := nI (sp_set P 1 (i + 1))) (by rw [sp_or_ok i (by omega) _ (sp_set_lt P 1 i)]; simp [sp_set, hp, h1]) ?_
        refine ax_istore_n (pc' := 36) rfl (Nat.le_of_ble_eq_true rfl) dX7_fittingUnits_35 rfl ?_
        refine ax_iinc1 (pc' := 39) rfl rfl (Nat.le_of_ble_eq_true rfl) dX7_fittingUnits_36 rfl ?_
        refine ax_goto (tgt := 4) dX7_fittingUnits_39 (by decide) ?_
        exact ih (i + 1) (by omega) (by omega)
      · refine ax_if_eq (pc' := 30) (tgt := 36) dX7_fittingUnits_27 (by decide) rfl (fun _ => ?_) (fun hz => absurd (by rw [show sp_fit b rs ss w (sp_K b w) i ss.length = false by rw [hP] at hp; simpa using hp]; exact kz_0) hz)
        refine ax_iinc1 (pc' := 39) rfl rfl (Nat.le_of_ble_eq_true rfl) dX7_fittingUnits_36 rfl ?_
        refine ax_goto (tgt := 4) dX7_fittingUnits_39 (by decide) ?_
        have := ih (i + 1) (by omega) (by omega)
        simp only [sp_set, hp, and_false, if_false, Nat.add_zero, Bool.false_eq_true] at this
        exact this
  exact K 9 1 (by decide) (by decide)
theorem c_fittingKinds {ss : List sp_rep} {w : Nat} (hX : xq_At σ.1 pb pq k b) (hK : bk_At σ.1 5 rs dy) (hk : bk_ok b rs) (hS : sg_At σ.1 ss) (hs : sg_ok b ss) (hw : w < b.2.2.1) : ax_R mX7_fittingKinds 5 [.ref 0, .int (nI w)] σ (.int (nI (sp_set (fun kd => sp_fit b rs ss w kd (sp_U b w) ss.length) 0 4))) := by
  have hX0 := hX
  obtain ⟨X_o, ⟨fr, hB, hrd⟩, hb, hp4⟩ := hX
  obtain ⟨fl, fn, fb, fk, fp, fu, B_o, B_lies, B_leans, B_bends, B_roads, B_kinds, B_paces, B_units, r1, r2, r3⟩ := id hB
  have h4 := hb.2.2.1
  obtain ⟨k1, k2, k3, k4, k5⟩ := hb.2.2.2.2.2 w
  obtain ⟨e1, e2, e3⟩ := r3 w hw
  obtain ⟨P, hP⟩ : ∃ P : Nat → Bool, P = (fun kd => sp_fit b rs ss w kd (sp_U b w) ss.length) := ⟨_, rfl⟩
  rw [← hP]
  refine ax_N.of (ls := [some (.ref 0), some (.int (nI w)), none, none]) (by decide +kernel) rfl (Nat.le_of_ble_eq_true rfl) ?_
  refine ax_iconst (pc' := 1) (v := (nI 0)) kc_0 dX7_fittingKinds_0 rfl ?_
  refine ax_istore_n (pc' := 2) rfl (Nat.le_of_ble_eq_true rfl) dX7_fittingKinds_1 rfl ?_
  refine ax_iconst (pc' := 3) (v := (nI 0)) kc_0 dX7_fittingKinds_2 rfl ?_
  refine ax_istore_n (pc' := 4) rfl (Nat.le_of_ble_eq_true rfl) dX7_fittingKinds_3 rfl ?_
  have K : ∀ m i, i + m = 4 → ax_J (mX7_fittingKinds, 5, 0, 0) 0 0 4 [some (.ref 0), some (.int (nI w)), some (.int (nI (sp_set P 0 i))), some (.int (nI i))] [] σ (fun r σ' => r = some (.int (nI (sp_set P 0 4))) ∧ σ' = σ) := by
    intro m
    induction m with
    | zero =>
      intro i hi
      have hi : i = 4 := hi
      subst hi
      refine ax_iload_n (pc' := 5) rfl dX7_fittingKinds_4 rfl ?_
      refine ax_iconst (pc' := 6) (v := (nI 4)) kc_4 dX7_fittingKinds_5 rfl ?_
      refine ax_icmp_ge (pc' := 9) (tgt := 41) dX7_fittingKinds_6 (by decide) rfl (fun _ => ?_) (fun hz => absurd ((by decide)) hz)
      refine ax_iload_n (pc' := 42) rfl dX7_fittingKinds_41 rfl ?_
      exact ax_iret dX7_fittingKinds_42 rfl (Nat.le_of_ble_eq_true rfl) (Nat.le_of_ble_eq_true rfl) (⟨rfl, rfl⟩)
    | succ m ih =>
      intro i hi
      refine ax_iload_n (pc' := 5) rfl dX7_fittingKinds_4 rfl ?_
      refine ax_iconst (pc' := 6) (v := (nI 4)) kc_4 dX7_fittingKinds_5 rfl ?_
      refine ax_icmp_ge (pc' := 9) (tgt := 41) dX7_fittingKinds_6 (by decide) rfl (fun hz => absurd hz (nI_ge (by omega) (by omega))) (fun _ => ?_)
      refine ax_aload_n (pc' := 10) rfl dX7_fittingKinds_9 rfl ?_
      refine ax_iload_n (pc' := 11) rfl dX7_fittingKinds_10 rfl ?_
      refine ax_iload_n (pc' := 12) rfl dX7_fittingKinds_11 rfl ?_
      refine ax_aload_n (pc' := 13) rfl dX7_fittingKinds_12 rfl ?_
      refine ax_getf (pc' := 16) fl_X7_63 X_o rfl dX7_fittingKinds_13 rfl ?_
      refine ax_getf (pc' := 19) fl_X7_151 B_o rfl dX7_fittingKinds_16 rfl ?_
      refine ax_iload_n (pc' := 20) rfl dX7_fittingKinds_19 rfl ?_
      refine ax_callSR (pc' := 23) ls_X7_120 (c_at B_units (by omega) (by decide)) rfl rfl (Nat.le_of_ble_eq_true rfl) (Nat.le_of_ble_eq_true rfl) dX7_fittingKinds_20 rfl ?_
      refine ax_topi e3 ?_
      refine ax_callVR (pc' := 26) lv_X7_314 (c_allSeenFits (kd := i) hX0 hK hk hS hs hw (by omega) (by omega) k5) X_o rfl rfl (Nat.le_of_ble_eq_true rfl) (Nat.le_of_ble_eq_true rfl) dX7_fittingKinds_23 rfl ?_
      by_cases hp : P i = true
      · refine ax_if_eq (pc' := 29) (tgt := 35) dX7_fittingKinds_26 (by decide) rfl (fun hz => absurd hz (by rw [show sp_fit b rs ss w i (sp_U b w) ss.length = true by rw [hP] at hp; exact hp]; exact kz_1)) (fun _ => ?_)
        refine ax_iload_n (pc' := 30) rfl dX7_fittingKinds_29 rfl ?_
        refine ax_iconst (pc' := 31) (v := (nI 1)) kc_1 dX7_fittingKinds_30 rfl ?_
        refine ax_iload_n (pc' := 32) rfl dX7_fittingKinds_31 rfl ?_
        refine ax_ishl (pc' := 33) dX7_fittingKinds_32 rfl ?_
        refine ax_ior (pc' := 34) dX7_fittingKinds_33 rfl ?_
        refine ax_topi (v' := nI (sp_set P 0 (i + 1))) (by rw [sp_or_ok i (by omega) _ (sp_set_lt P 0 i)]; simp [sp_set, hp]) ?_
        refine ax_istore_n (pc' := 35) rfl (Nat.le_of_ble_eq_true rfl) dX7_fittingKinds_34 rfl ?_
        refine ax_iinc1 (pc' := 38) rfl rfl (Nat.le_of_ble_eq_true rfl) dX7_fittingKinds_35 rfl ?_
        refine ax_goto (tgt := 4) dX7_fittingKinds_38 (by decide) ?_
        exact ih (i + 1) (by omega)
      · refine ax_if_eq (pc' := 29) (tgt := 35) dX7_fittingKinds_26 (by decide) rfl (fun _ => ?_) (fun hz => absurd (by rw [show sp_fit b rs ss w i (sp_U b w) ss.length = false by rw [hP] at hp; simpa using hp]; exact kz_0) hz)
        refine ax_iinc1 (pc' := 38) rfl rfl (Nat.le_of_ble_eq_true rfl) dX7_fittingKinds_35 rfl ?_
        refine ax_goto (tgt := 4) dX7_fittingKinds_38 (by decide) ?_
        have := ih (i + 1) (by omega)
        simp only [sp_set, hp, and_false, if_false, Nat.add_zero, Bool.false_eq_true] at this
        exact this
  exact K 4 0 (by decide)
/-- the ways, of all 10 ^ n, of the sets before i that are near -/
def sp_ways (P : Nat → Bool) (x n : Nat) : Nat → Nat
  | 0 => 0
  | i + 1 => sp_ways P x n i + (if P i = true then x ^ sp_bits i 9 * (10 - x) ^ (n - sp_bits i 9) else 0)
theorem sp_shl1 : ∀ n, n < 10 → nI 1 <<< (nI n &&& 31) = nI (2 ^ n) := by decide +kernel
theorem sp_bits_le : ∀ n, n < 10 → ∀ s, s < 2 ^ n → sp_bits s 9 ≤ n := by decide +kernel
theorem c_waysNear {e x : Nat} (hX : xq_At σ.1 pb pq k b) (hG : gi_Any σ.1) (hK : bk_At σ.1 5 rs dy) (hk : bk_ok b rs) (he : e ≤ 99) (hx : x ≤ 10) : ax_N mX7_waysNear 4 0 0 [.ref 0, .int (nI e), .int (nI x)] σ (fun r τ => r = some (.int (nI (sp_ways (fun s => sp_near b.1 e (sp_mean (sp_sel b rs 511 s) rs.length)) x rs.length (2 ^ rs.length)))) ∧ gi_At τ.1 b rs ∧ ax_fr 37 3 σ τ) := by
  have hX0 := hX
  obtain ⟨X_o, ⟨fr, hB, hrd⟩, hb, hp4⟩ := hX
  have G_o : σ.1 37 = _ := hG.choose_spec.choose_spec.choose_spec.1
  have h9 := hk.1
  obtain ⟨P, hP⟩ : ∃ P : Nat → Bool, P = (fun s => sp_near b.1 e (sp_mean (sp_sel b rs 511 s) rs.length)) := ⟨_, rfl⟩
  rw [← hP]
  refine ax_N.of (ls := [some (.ref 0), some (.int (nI e)), some (.int (nI x)), none, none, none]) (by decide +kernel) rfl (Nat.le_of_ble_eq_true rfl) ?_
  refine ax_aload_n (pc' := 1) rfl dX7_waysNear_0 rfl ?_
  refine ax_getf (pc' := 4) fl_X7_56 X_o rfl dX7_waysNear_1 rfl ?_
  refine ax_aload_n (pc' := 5) rfl dX7_waysNear_4 rfl ?_
  refine ax_getf (pc' := 8) fl_X7_63 X_o rfl dX7_waysNear_5 rfl ?_
  refine ax_aload_n (pc' := 9) rfl dX7_waysNear_8 rfl ?_
  refine ax_getf (pc' := 12) fl_X7_26 X_o rfl dX7_waysNear_9 rfl ?_
  refine ax_callVG (pc' := 15) lv_X7_219 (c_reckon hG hB hb hK hk hp4 (by omega)) G_o rfl rfl (Nat.le_of_ble_eq_true rfl) (Nat.le_of_ble_eq_true rfl) dX7_waysNear_12 rfl (fun r σ' hr => ?_)
  obtain ⟨rfl, hG2, hF⟩ := hr
  have X_o := hF.at X_o (by omega)
  have hB2 := hB.fr hF (by omega)
  have hK2 := hK.fr hF (by omega)
  have G_o : σ'.1 37 = _ := hG2.choose_spec.choose_spec.1
  have K_o : σ'.1 5 = _ := hK2.choose_spec.choose_spec.choose_spec.choose_spec.1
  have B_o : σ'.1 pb = _ := hB2.choose_spec.choose_spec.choose_spec.choose_spec.choose_spec.choose_spec.1
  refine ax_iconst (pc' := 16) (v := (nI 0)) kc_0 dX7_waysNear_15 rfl ?_
  refine ax_istore_n (pc' := 17) rfl (Nat.le_of_ble_eq_true rfl) dX7_waysNear_16 rfl ?_
  refine ax_iconst (pc' := 18) (v := (nI 0)) kc_0 dX7_waysNear_17 rfl ?_
  refine ax_istore (pc' := 20) rfl (Nat.le_of_ble_eq_true rfl) dX7_waysNear_18 rfl ?_
  have hpw : 2 ^ rs.length ≤ 2 ^ 9 := Nat.pow_le_pow_right (by decide) h9
  have K : ∀ m i (z : Option Value), i + m = 2 ^ rs.length → ax_J (mX7_waysNear, 4, 0, 0) 0 0 20 [some (.ref 0), some (.int (nI e)), some (.int (nI x)), some (.int (nI (sp_ways P x rs.length i))), some (.int (nI i)), z] [] σ' (fun r τ => r = some (.int (nI (sp_ways P x rs.length (2 ^ rs.length)))) ∧ gi_At τ.1 b rs ∧ ax_fr 37 3 σ τ) := by
    intro m
    induction m with
    | zero =>
      intro i z hi
      have hi : i = 2 ^ rs.length := hi
      subst hi
      refine ax_iload (pc' := 22) rfl dX7_waysNear_20 rfl ?_
      refine ax_iconst (pc' := 23) (v := (nI 1)) kc_1 dX7_waysNear_22 rfl ?_
      refine ax_aload_n (pc' := 24) rfl dX7_waysNear_23 rfl ?_
      refine ax_getf (pc' := 27) fl_X7_26 X_o rfl dX7_waysNear_24 rfl ?_
      refine ax_getf (pc' := 30) fl_X7_178 K_o rfl dX7_waysNear_27 rfl ?_
      refine ax_ishl (pc' := 31) dX7_waysNear_30 rfl ?_
      refine ax_topi (sp_shl1 _ (by omega)) ?_
      refine ax_icmp_ge (pc' := 34) (tgt := 97) dX7_waysNear_31 (by decide) rfl (fun _ => ?_) (fun hz => absurd (nI_le (Nat.le_refl _) (by omega)) hz)
      refine ax_iload_n (pc' := 98) rfl dX7_waysNear_97 rfl ?_
      exact ax_iret dX7_waysNear_98 rfl (Nat.le_of_ble_eq_true rfl) (Nat.le_of_ble_eq_true rfl) (⟨rfl, hG2, hF⟩)
    | succ m ih =>
      intro i z hi
      refine ax_iload (pc' := 22) rfl dX7_waysNear_20 rfl ?_
      refine ax_iconst (pc' := 23) (v := (nI 1)) kc_1 dX7_waysNear_22 rfl ?_
      refine ax_aload_n (pc' := 24) rfl dX7_waysNear_23 rfl ?_
      refine ax_getf (pc' := 27) fl_X7_26 X_o rfl dX7_waysNear_24 rfl ?_
      refine ax_getf (pc' := 30) fl_X7_178 K_o rfl dX7_waysNear_27 rfl ?_
      refine ax_ishl (pc' := 31) dX7_waysNear_30 rfl ?_
      refine ax_topi (sp_shl1 _ (by omega)) ?_
      refine ax_icmp_ge (pc' := 34) (tgt := 97) dX7_waysNear_31 (by decide) rfl (fun hz => absurd hz (nI_ge (by omega) (by omega))) (fun _ => ?_)
      refine ax_aload_n (pc' := 35) rfl dX7_waysNear_34 rfl ?_
      refine ax_getf (pc' := 38) fl_X7_63 X_o rfl dX7_waysNear_35 rfl ?_
      refine ax_aload_n (pc' := 39) rfl dX7_waysNear_38 rfl ?_
      refine ax_getf (pc' := 42) fl_X7_56 X_o rfl dX7_waysNear_39 rfl ?_
      refine ax_sipush (pc' := 45) (v := (nI 511)) ks_511 dX7_waysNear_42 rfl ?_
      refine ax_iload (pc' := 47) rfl dX7_waysNear_45 rfl ?_
      refine ax_callVR (pc' := 50) lv_X7_228 (c_meanOf hG2 hb hk (by decide) (by omega)) G_o rfl rfl (Nat.le_of_ble_eq_true rfl) (Nat.le_of_ble_eq_true rfl) dX7_waysNear_47 rfl ?_
      refine ax_iload_n (pc' := 51) rfl dX7_waysNear_50 rfl ?_
      refine ax_callVR (pc' := 54) lv_X7_231 (c_isNear hB2 hb (fun m hm => Nat.le_trans (sp_mean_le (fun i m hi h => sp_sel_le hb hk hi h) hm) (by decide)) he) B_o rfl rfl (Nat.le_of_ble_eq_true rfl) (Nat.le_of_ble_eq_true rfl) dX7_waysNear_51 rfl ?_
      by_cases hp : P i = true
      · have hbl := sp_bits_le rs.length (by omega) i (by omega)
        refine ax_if_eq (pc' := 57) (tgt := 91) dX7_waysNear_54 (by decide) rfl (fun hz => absurd hz (by rw [show sp_near b.1 e (sp_mean (sp_sel b rs 511 i) rs.length) = true by rw [hP] at hp; exact hp]; exact kz_1)) (fun _ => ?_)
        refine ax_iload (pc' := 59) rfl dX7_waysNear_57 rfl ?_
        refine ax_callSR (pc' := 62) ls_X7_223 (c_bitCount (s := i) (by omega)) rfl rfl (Nat.le_of_ble_eq_true rfl) (Nat.le_of_ble_eq_true rfl) dX7_waysNear_59 rfl ?_
        refine ax_istore (pc' := 64) rfl (Nat.le_of_ble_eq_true rfl) dX7_waysNear_62 rfl ?_
        refine ax_iload_n (pc' := 65) rfl dX7_waysNear_64 rfl ?_
        refine ax_iload_n (pc' := 66) rfl dX7_waysNear_65 rfl ?_
        refine ax_iload (pc' := 68) rfl dX7_waysNear_66 rfl ?_
        refine ax_callSR (pc' := 71) ls_X7_261 (c_power (x := x) (t := sp_bits i 9) (by omega)) rfl rfl (Nat.le_of_ble_eq_true rfl) (Nat.le_of_ble_eq_true rfl) dX7_waysNear_68 rfl ?_
        refine ax_bipush (pc' := 73) (v := (nI 10)) kb_10 dX7_waysNear_71 rfl ?_
        refine ax_iload_n (pc' := 74) rfl dX7_waysNear_73 rfl ?_
        refine ax_isub (pc' := 75) dX7_waysNear_74 rfl ?_
        refine ax_topi (pk_sub hx) ?_
        refine ax_aload_n (pc' := 76) rfl dX7_waysNear_75 rfl ?_
        refine ax_getf (pc' := 79) fl_X7_26 X_o rfl dX7_waysNear_76 rfl ?_
        refine ax_getf (pc' := 82) fl_X7_178 K_o rfl dX7_waysNear_79 rfl ?_
        refine ax_iload (pc' := 84) rfl dX7_waysNear_82 rfl ?_
        refine ax_isub (pc' := 85) dX7_waysNear_84 rfl ?_
        refine ax_topi (pk_sub hbl) ?_
        refine ax_callSR (pc' := 88) ls_X7_261 (c_power (x := 10 - x) (t := rs.length - sp_bits i 9) (by omega)) rfl rfl (Nat.le_of_ble_eq_true rfl) (Nat.le_of_ble_eq_true rfl) dX7_waysNear_85 rfl ?_
        refine ax_imul (pc' := 89) dX7_waysNear_88 rfl ?_
        refine ax_iadd (pc' := 90) dX7_waysNear_89 rfl ?_
        refine ax_topi (v' := nI (sp_ways P x rs.length (i + 1))) (by rw [pk_mul, nI_add]; simp [sp_ways, hp]) ?_
        refine ax_istore_n (pc' := 91) rfl (Nat.le_of_ble_eq_true rfl) dX7_waysNear_90 rfl ?_
        refine ax_iinc1 (pc' := 94) rfl rfl (Nat.le_of_ble_eq_true rfl) dX7_waysNear_91 rfl ?_
        refine ax_goto (tgt := 20) dX7_waysNear_94 (by decide) ?_
        exact ih (i + 1) _ (by omega)
      · refine ax_if_eq (pc' := 57) (tgt := 91) dX7_waysNear_54 (by decide) rfl (fun _ => ?_) (fun hz => absurd (by rw [show sp_near b.1 e (sp_mean (sp_sel b rs 511 i) rs.length) = false by rw [hP] at hp; simpa using hp]; exact kz_0) hz)
        refine ax_iinc1 (pc' := 94) rfl rfl (Nat.le_of_ble_eq_true rfl) dX7_waysNear_91 rfl ?_
        refine ax_goto (tgt := 20) dX7_waysNear_94 (by decide) ?_
        have := ih (i + 1) z (by omega)
        simp only [sp_ways, hp, if_false, Nat.add_zero, Bool.false_eq_true] at this
        exact this
  exact K (2 ^ rs.length) 0 none (Nat.zero_add _)
end XW
