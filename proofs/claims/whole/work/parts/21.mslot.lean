/-! ===== the model: its slots change ===== -/
theorem sl_At.mv {f g : Nat → Int32} {p q dy : Nat} {rs : List sp_rep} (h : sl_At f p rs dy) (h9 : rs.length ≤ 9) (e : ∀ x, x < 38 → g (q + x) = f (p + x)) : sl_At g q rs dy := by
  obtain ⟨l1, l2, l3⟩ := h
  refine ⟨(e 36 (by decide)).trans l1, (e 37 (by decide)).trans l2, fun i hi => ?_⟩
  obtain ⟨a0, a1, a2, a3⟩ := l3 i hi
  have e0 := e (4 * i) (by omega)
  have e1 := e (4 * i + 1) (by omega)
  have e2 := e (4 * i + 2) (by omega)
  have e3 := e (4 * i + 3) (by omega)
  rw [← Nat.add_assoc, ← Nat.add_assoc] at e1 e2 e3
  exact ⟨e0.trans a0, e1.trans a1, e2.trans a2, e3.trans a3⟩
theorem sl_At.ext {f : Nat → Int32} {p dy : Nat} {rs rs' : List sp_rep} (h : sl_At f p rs dy) (hl : rs'.length = rs.length) (e : ∀ i, i < rs.length → sp_at rs' i = sp_at rs i) : sl_At f p rs' dy := by
  obtain ⟨l1, l2, l3⟩ := h
  refine ⟨by rw [hl]; exact l1, l2, fun i hi => ?_⟩
  rw [hl] at hi
  rw [e i hi]
  exact l3 i hi
def sl_cp (f : Nat → Int32) (p q n : Nat) : Nat → Int32 := fun x => if q ≤ x ∧ x < q + n then f (p + (x - q)) else f x
def sl_sh (f : Nat → Int32) (lo hi d : Nat) : Nat → Int32 := fun x => if lo ≤ x ∧ x < hi then f (x + d) else f x
theorem sl_sh_step {f : Nat → Int32} {lo hi d : Nat} (h : lo ≤ hi) (hd : 0 < d) (x : Nat) : upd (sl_sh f lo hi d) hi (sl_sh f lo hi d (hi + d)) x = sl_sh f lo (hi + 1) d x := by
  by_cases e : x = hi
  · subst e
    rw [pk_us]
    simp only [sl_sh]
    rw [if_neg (by omega), if_pos (by omega)]
  · rw [pk_un e]
    simp only [sl_sh]
    by_cases h1 : lo ≤ x ∧ x < hi
    · rw [if_pos h1, if_pos (by omega)]
    · rw [if_neg h1, if_neg (by omega)]
theorem sl_cp_in {f : Nat → Int32} {p q n x : Nat} (h : x < n) : sl_cp f p q n (q + x) = f (p + x) := by
  simp only [sl_cp]
  rw [if_pos (by omega), Nat.add_sub_cancel_left]
theorem sl_cp_out {f : Nat → Int32} {p q n x : Nat} (h : x < q ∨ q + n ≤ x) : sl_cp f p q n x = f x := by
  simp only [sl_cp]
  rw [if_neg (by omega)]
theorem mb_At.on {h h' : ax_H} {b : sp_B} (hB : mb_At h b) (e : ∀ q, 57 ≤ q → q < 63 → h' q = h q) : mb_At h' b := by
  obtain ⟨fl, fn, fb, fk, fp, fu, a1, a2, a3, a4, a5, a6, r⟩ := hB
  exact ⟨fl, fn, fb, fk, fp, fu, (e _ (by decide) (by decide)).trans a1, (e _ (by decide) (by decide)).trans a2, (e _ (by decide) (by decide)).trans a3, (e _ (by decide) (by decide)).trans a4, (e _ (by decide) (by decide)).trans a5, (e _ (by decide) (by decide)).trans a6, r⟩
theorem mn_Any.on {h h' : ax_H} (hB : mn_Any h) (e : ∀ q, 63 ≤ q → q < 69 → h' q = h q) : mn_Any h' := by
  obtain ⟨fl, fn, fb, fk, fp, fu, a1, a2, a3, a4, a5, a6⟩ := hB
  exact ⟨fl, fn, fb, fk, fp, fu, (e _ (by decide) (by decide)).trans a1, (e _ (by decide) (by decide)).trans a2, (e _ (by decide) (by decide)).trans a3, (e _ (by decide) (by decide)).trans a4, (e _ (by decide) (by decide)).trans a5, (e _ (by decide) (by decide)).trans a6⟩
theorem mt_At.on {h h' : ax_H} {n : Nat} {tx : Nat → Nat} (hB : mt_At h n tx) (e : h' 70 = h 70) : mt_At h' n tx := by
  obtain ⟨f, a1, r⟩ := hB
  exact ⟨f, e.trans a1, r⟩
theorem mg_At.on {h h' : ax_H} {ss : List sp_rep} (hB : mg_At h ss) (e : ∀ q, 71 ≤ q → q < 75 → h' q = h q) : mg_At h' ss := by
  obtain ⟨fl, fn, fb, fk, a1, a2, a3, a4, r⟩ := hB
  exact ⟨fl, fn, fb, fk, (e _ (by decide) (by decide)).trans a1, (e _ (by decide) (by decide)).trans a2, (e _ (by decide) (by decide)).trans a3, (e _ (by decide) (by decide)).trans a4, r⟩
theorem ml_At.slot {σ τ : ax_S} {b : sp_B} {f g : Nat → Int32} (h : ml_At σ.1 b f) (hτ : τ = (ax_up σ.1 69 (.inl (false, 456, g)), σ.2)) : ml_At τ.1 b g := by
  obtain ⟨⟨ng, nt, nw, ac, kp, ln, ap, bg, wr, se, M_o⟩, hB, M_slot⟩ := h
  exact ⟨⟨ng, nt, nw, ac, kp, ln, ap, bg, wr, se, ax_kN hτ M_o (by decide)⟩, hB.on (fun q _ _ => ax_kF hτ (by omega)), ax_kS hτ⟩
section MS
variable {σ : ax_S} {S : sp_S} {b : sp_B} {f : Nat → Int32} {rs : List sp_rep} {p dy : Nat}
theorem m_copies {p q : Nat} (hM : ml_At σ.1 b f) (hp : p + 38 ≤ 456) (hq : q + 38 ≤ 456) (hd : p + 38 ≤ q ∨ q + 38 ≤ p) : ax_V mX8_copies 0 [.ref 56, .int (nI p), .int (nI q)] σ (ax_up σ.1 69 (.inl (false, 456, sl_cp f p q 38)), σ.2) := by
  obtain ⟨⟨ng, nt, nw, ac, kp, ln, ap, bg, wr, se, M_o⟩, ⟨fl, fn, fb, fk, fp, fu, M_north, M_lean, M_bend, M_sort, M_pace, M_unit, r1, r2, r3⟩, M_slot⟩ := id hM
  refine ax_N.of (ls := [some (.ref 56), some (.int (nI p)), some (.int (nI q)), none]) (by decide +kernel) rfl (Nat.le_of_ble_eq_true rfl) ?_
  refine ax_iconst (pc' := 1) (v := (nI 0)) kc_0 dX8_copies_0 rfl ?_
  refine ax_istore_n (pc' := 2) rfl (Nat.le_of_ble_eq_true rfl) dX8_copies_1 rfl ?_
  have K : ∀ m i, i + m = 38 → ∀ τ : ax_S, τ = (ax_up σ.1 69 (.inl (false, 456, sl_cp f p q i)), σ.2) → ax_J (mX8_copies, 0, 0, 0) 0 0 2 [some (.ref 56), some (.int (nI p)), some (.int (nI q)), some (.int (nI i))] [] τ (fun r' σ' => r' = none ∧ σ' = (ax_up σ.1 69 (.inl (false, 456, sl_cp f p q 38)), σ.2)) := by
    intro m
    induction m with
    | zero =>
      intro i hi τ hτ
      have hi : i = 38 := hi
      subst hi
      refine ax_iload_n (pc' := 3) rfl dX8_copies_2 rfl ?_
      refine ax_bipush (pc' := 5) (v := (nI 38)) kb_38 dX8_copies_3 rfl ?_
      refine ax_icmp_ge (pc' := 8) (tgt := 30) dX8_copies_5 (by decide) rfl (fun _ => ?_) (fun hz => absurd ((by decide)) hz)
      exact ax_vret dX8_copies_30 rfl (Nat.le_of_ble_eq_true rfl) (Nat.le_of_ble_eq_true rfl) (⟨rfl, hτ⟩)
    | succ m ih =>
      intro i hi τ hτ
      have M_o := ax_kN hτ M_o (by decide)
      have M_slot := ax_kS hτ
      refine ax_iload_n (pc' := 3) rfl dX8_copies_2 rfl ?_
      refine ax_bipush (pc' := 5) (v := (nI 38)) kb_38 dX8_copies_3 rfl ?_
      refine ax_icmp_ge (pc' := 8) (tgt := 30) dX8_copies_5 (by decide) rfl (fun hz => absurd hz (nI_ge (by omega) (by decide))) (fun _ => ?_)
      refine ax_aload_n (pc' := 9) rfl dX8_copies_8 rfl ?_
      refine ax_getf (pc' := 12) fl_X8_46 M_o rfl dX8_copies_9 rfl ?_
      refine ax_iload_n (pc' := 13) rfl dX8_copies_12 rfl ?_
      refine ax_iload_n (pc' := 14) rfl dX8_copies_13 rfl ?_
      refine ax_iadd (pc' := 15) dX8_copies_14 rfl ?_
      refine ax_topi (nI_add q i) ?_
      refine ax_aload_n (pc' := 16) rfl dX8_copies_15 rfl ?_
      refine ax_getf (pc' := 19) fl_X8_46 M_o rfl dX8_copies_16 rfl ?_
      refine ax_iload_n (pc' := 20) rfl dX8_copies_19 rfl ?_
      refine ax_iload_n (pc' := 21) rfl dX8_copies_20 rfl ?_
      refine ax_iadd (pc' := 22) dX8_copies_21 rfl ?_
      refine ax_topi (nI_add p i) ?_
      refine ax_iald (pc' := 23) M_slot rfl (by omega) (by first | decide | assumption | omega) dX8_copies_22 rfl ?_
      refine ax_iasu (pc' := 24) M_slot rfl (by omega) (by first | decide | assumption | omega) dX8_copies_23 rfl (fun s1 h1 => ?_)
      refine ax_iinc1 (pc' := 27) rfl rfl (Nat.le_of_ble_eq_true rfl) dX8_copies_24 rfl ?_
      refine ax_goto (tgt := 2) dX8_copies_27 (by decide) ?_
      refine ih (i + 1) (by omega) s1 ?_
      rw [h1, hτ]
      simp only [ax_up2]
      refine ax_arr (fun x => ?_)
      by_cases e : x = q + i
      · subst e
        rw [pk_us, sl_cp_in (Nat.lt_succ_self i), sl_cp_out (by omega)]
      · rw [pk_un e]
        simp only [sl_cp]
        by_cases h1 : q ≤ x ∧ x < q + i
        · rw [if_pos h1, if_pos (by omega)]
        · rw [if_neg h1, if_neg (by omega)]
  refine K 38 0 (by decide) σ ?_
  have e : sl_cp f p q 0 = f := by
    funext x
    exact sl_cp_out (by omega)
  rw [e, ax_upi M_slot]
/-- one slot holds these reports and days now, the others what they held -/
abbrev sl_Po (σ : ax_S) (f : Nat → Int32) (p : Nat) (v : Option Value) (rs : List sp_rep) (dy : Nat) : Option Value → ax_S → Prop := fun r τ => r = v ∧ ∃ g, τ = (ax_up σ.1 69 (.inl (false, 456, g)), σ.2) ∧ sl_At g p rs dy ∧ ∀ x, (x < p ∨ p + 38 ≤ x) → g x = f x
theorem m_walks {w a c : Nat} (hM : ml_At σ.1 b f) (hb : sp_ok b) (hL : sl_At f p rs dy) (hp : p + 38 ≤ 456) (hk : bk_ok b rs) (h9 : rs.length < 9) (hw : w < b.2.2.1) (ha : a < b.2.1) (hc : c < b.2.1) : ax_N mX8_walks 4 0 0 [.ref 56, .int (nI p), .int (nI w), .int (nI a), .int (nI c)] σ (sl_Po σ f p (some (.int (nI (sp_wk b rs w a c).2.2.2))) (rs ++ [sp_wk b rs w a c]) (dy + sp_days b w a c)) := by
  obtain ⟨⟨ng, nt, nw, ac, kp, ln, ap, bg, wr, se, M_o⟩, ⟨fl, fn, fb, fk, fp, fu, M_north, M_lean, M_bend, M_sort, M_pace, M_unit, r1, r2, r3⟩, M_slot⟩ := id hM
  have hL0 := hL
  obtain ⟨l1, l2, l3⟩ := hL
  have h4 := hb.2.2.1
  obtain ⟨k1, k2, k3, k4, k5⟩ := hb.2.2.2.2.2 w
  obtain ⟨e1, e2, e3⟩ := r3 w hw
  have hrd := sp_road_le hb a c
  obtain ⟨n, hn⟩ : ∃ n, n = (sp_wk b rs w a c).2.2.2 := ⟨_, rfl⟩
  obtain ⟨r, hr⟩ : ∃ r, r = rs.length := ⟨_, rfl⟩
  rw [← hr] at l1
  refine ax_N.of (ls := [some (.ref 56), some (.int (nI p)), some (.int (nI w)), some (.int (nI a)), some (.int (nI c)), none, none]) (by decide +kernel) rfl (Nat.le_of_ble_eq_true rfl) ?_
  refine ax_aload_n (pc' := 1) rfl dX8_walks_0 rfl ?_
  refine ax_iload_n (pc' := 2) rfl dX8_walks_1 rfl ?_
  refine ax_iload_n (pc' := 3) rfl dX8_walks_2 rfl ?_
  refine ax_iload_n (pc' := 4) rfl dX8_walks_3 rfl ?_
  refine ax_iload (pc' := 6) rfl dX8_walks_4 rfl ?_
  refine ax_aload_n (pc' := 7) rfl dX8_walks_6 rfl ?_
  refine ax_getf (pc' := 10) fl_X8_19 M_o rfl dX8_walks_7 rfl ?_
  refine ax_iload_n (pc' := 11) rfl dX8_walks_10 rfl ?_
  refine ax_iald (pc' := 12) M_sort rfl (by omega) (by first | decide | assumption | omega) dX8_walks_11 rfl ?_
  refine ax_topi e1 ?_
  refine ax_aload_n (pc' := 13) rfl dX8_walks_12 rfl ?_
  refine ax_getf (pc' := 16) fl_X8_25 M_o rfl dX8_walks_13 rfl ?_
  refine ax_iload_n (pc' := 17) rfl dX8_walks_16 rfl ?_
  refine ax_iald (pc' := 18) M_unit rfl (by omega) (by first | decide | assumption | omega) dX8_walks_17 rfl ?_
  refine ax_topi e3 ?_
  refine ax_callVR (pc' := 21) lv_X8_217 (m_told hM hb hL0 hp hk hw ha hc k1 (by omega) k5) M_o rfl rfl (Nat.le_of_ble_eq_true rfl) (Nat.le_of_ble_eq_true rfl) dX8_walks_18 rfl ?_
  refine ax_topi (v' := nI n) (by rw [hn]; rfl) ?_
  refine ax_istore (pc' := 23) rfl (Nat.le_of_ble_eq_true rfl) dX8_walks_21 rfl ?_
  refine ax_aload_n (pc' := 24) rfl dX8_walks_23 rfl ?_
  refine ax_getf (pc' := 27) fl_X8_46 M_o rfl dX8_walks_24 rfl ?_
  refine ax_iload_n (pc' := 28) rfl dX8_walks_27 rfl ?_
  refine ax_bipush (pc' := 30) (v := (nI 36)) kb_36 dX8_walks_28 rfl ?_
  refine ax_iadd (pc' := 31) dX8_walks_30 rfl ?_
  refine ax_topi (nI_add p 36) ?_
  refine ax_iald (pc' := 32) M_slot rfl (by omega) (by first | decide | assumption | omega) dX8_walks_31 rfl ?_
  refine ax_topi l1 ?_
  refine ax_istore (pc' := 34) rfl (Nat.le_of_ble_eq_true rfl) dX8_walks_32 rfl ?_
  refine ax_aload_n (pc' := 35) rfl dX8_walks_34 rfl ?_
  refine ax_getf (pc' := 38) fl_X8_46 M_o rfl dX8_walks_35 rfl ?_
  refine ax_iload_n (pc' := 39) rfl dX8_walks_38 rfl ?_
  refine ax_iconst (pc' := 40) (v := (nI 4)) kc_4 dX8_walks_39 rfl ?_
  refine ax_iload (pc' := 42) rfl dX8_walks_40 rfl ?_
  refine ax_imul (pc' := 43) dX8_walks_42 rfl ?_
  refine ax_iadd (pc' := 44) dX8_walks_43 rfl ?_
  refine ax_topi (v' := nI (p + 4 * r)) (by rw [pk_mul, nI_add]) ?_
  refine ax_iload_n (pc' := 45) rfl dX8_walks_44 rfl ?_
  refine ax_iasu (pc' := 46) M_slot rfl (by omega) (by first | decide | assumption | omega) dX8_walks_45 rfl (fun s1 h1 => ?_)
  have M_slot := ax_kS h1
  have M_o := ax_kN h1 M_o (by omega)
  have M_pace := ax_kN h1 M_pace (by omega)
  have hM1 := hM.slot h1
  refine ax_aload_n (pc' := 47) rfl dX8_walks_46 rfl ?_
  refine ax_getf (pc' := 50) fl_X8_46 M_o rfl dX8_walks_47 rfl ?_
  refine ax_iload_n (pc' := 51) rfl dX8_walks_50 rfl ?_
  refine ax_iconst (pc' := 52) (v := (nI 4)) kc_4 dX8_walks_51 rfl ?_
  refine ax_iload (pc' := 54) rfl dX8_walks_52 rfl ?_
  refine ax_imul (pc' := 55) dX8_walks_54 rfl ?_
  refine ax_iadd (pc' := 56) dX8_walks_55 rfl ?_
  refine ax_iconst (pc' := 57) (v := (nI 1)) kc_1 dX8_walks_56 rfl ?_
  refine ax_iadd (pc' := 58) dX8_walks_57 rfl ?_
  refine ax_topi (v' := nI (p + 4 * r + 1)) (by rw [pk_mul, nI_add, nI_add]) ?_
  refine ax_iload_n (pc' := 59) rfl dX8_walks_58 rfl ?_
  refine ax_iasu (pc' := 60) M_slot rfl (by omega) (by first | decide | assumption | omega) dX8_walks_59 rfl (fun s2 h2 => ?_)
  have M_slot := ax_kS h2
  have M_o := ax_kN h2 M_o (by omega)
  have M_pace := ax_kN h2 M_pace (by omega)
  have hM2 := hM1.slot h2
  refine ax_aload_n (pc' := 61) rfl dX8_walks_60 rfl ?_
  refine ax_getf (pc' := 64) fl_X8_46 M_o rfl dX8_walks_61 rfl ?_
  refine ax_iload_n (pc' := 65) rfl dX8_walks_64 rfl ?_
  refine ax_iconst (pc' := 66) (v := (nI 4)) kc_4 dX8_walks_65 rfl ?_
  refine ax_iload (pc' := 68) rfl dX8_walks_66 rfl ?_
  refine ax_imul (pc' := 69) dX8_walks_68 rfl ?_
  refine ax_iadd (pc' := 70) dX8_walks_69 rfl ?_
  refine ax_iconst (pc' := 71) (v := (nI 2)) kc_2 dX8_walks_70 rfl ?_
  refine ax_iadd (pc' := 72) dX8_walks_71 rfl ?_
  refine ax_topi (v' := nI (p + 4 * r + 2)) (by rw [pk_mul, nI_add, nI_add]) ?_
  refine ax_iload (pc' := 74) rfl dX8_walks_72 rfl ?_
  refine ax_iasu (pc' := 75) M_slot rfl (by omega) (by first | decide | assumption | omega) dX8_walks_74 rfl (fun s3 h3 => ?_)
  have M_slot := ax_kS h3
  have M_o := ax_kN h3 M_o (by omega)
  have M_pace := ax_kN h3 M_pace (by omega)
  have hM3 := hM2.slot h3
  refine ax_aload_n (pc' := 76) rfl dX8_walks_75 rfl ?_
  refine ax_getf (pc' := 79) fl_X8_46 M_o rfl dX8_walks_76 rfl ?_
  refine ax_iload_n (pc' := 80) rfl dX8_walks_79 rfl ?_
  refine ax_iconst (pc' := 81) (v := (nI 4)) kc_4 dX8_walks_80 rfl ?_
  refine ax_iload (pc' := 83) rfl dX8_walks_81 rfl ?_
  refine ax_imul (pc' := 84) dX8_walks_83 rfl ?_
  refine ax_iadd (pc' := 85) dX8_walks_84 rfl ?_
  refine ax_iconst (pc' := 86) (v := (nI 3)) kc_3 dX8_walks_85 rfl ?_
  refine ax_iadd (pc' := 87) dX8_walks_86 rfl ?_
  refine ax_topi (v' := nI (p + 4 * r + 3)) (by rw [pk_mul, nI_add, nI_add]) ?_
  refine ax_iload (pc' := 89) rfl dX8_walks_87 rfl ?_
  refine ax_iasu (pc' := 90) M_slot rfl (by omega) (by first | decide | assumption | omega) dX8_walks_89 rfl (fun s4 h4 => ?_)
  have M_slot := ax_kS h4
  have M_o := ax_kN h4 M_o (by omega)
  have M_pace := ax_kN h4 M_pace (by omega)
  have hM4 := hM3.slot h4
  refine ax_aload_n (pc' := 91) rfl dX8_walks_90 rfl ?_
  refine ax_getf (pc' := 94) fl_X8_46 M_o rfl dX8_walks_91 rfl ?_
  refine ax_iload_n (pc' := 95) rfl dX8_walks_94 rfl ?_
  refine ax_bipush (pc' := 97) (v := (nI 36)) kb_36 dX8_walks_95 rfl ?_
  refine ax_iadd (pc' := 98) dX8_walks_97 rfl ?_
  refine ax_topi (nI_add p 36) ?_
  refine ax_dup2 (pc' := 99) rfl rfl dX8_walks_98 rfl ?_
  refine ax_iald (pc' := 100) M_slot rfl (by omega) (by first | decide | assumption | omega) dX8_walks_99 rfl ?_
  refine ax_topi (v' := nI r) (by rw [pk_un (by omega), pk_un (by omega), pk_un (by omega), pk_un (by omega)]; exact l1) ?_
  refine ax_iconst (pc' := 101) (v := (nI 1)) kc_1 dX8_walks_100 rfl ?_
  refine ax_iadd (pc' := 102) dX8_walks_101 rfl ?_
  refine ax_topi (nI_add r 1) ?_
  refine ax_iasu (pc' := 103) M_slot rfl (by omega) (by first | decide | assumption | omega) dX8_walks_102 rfl (fun s5 h5 => ?_)
  have M_slot := ax_kS h5
  have M_o := ax_kN h5 M_o (by omega)
  have M_pace := ax_kN h5 M_pace (by omega)
  have hM5 := hM4.slot h5
  refine ax_aload_n (pc' := 104) rfl dX8_walks_103 rfl ?_
  refine ax_getf (pc' := 107) fl_X8_46 M_o rfl dX8_walks_104 rfl ?_
  refine ax_iload_n (pc' := 108) rfl dX8_walks_107 rfl ?_
  refine ax_bipush (pc' := 110) (v := (nI 37)) kb_37 dX8_walks_108 rfl ?_
  refine ax_iadd (pc' := 111) dX8_walks_110 rfl ?_
  refine ax_topi (nI_add p 37) ?_
  refine ax_dup2 (pc' := 112) rfl rfl dX8_walks_111 rfl ?_
  refine ax_iald (pc' := 113) M_slot rfl (by omega) (by first | decide | assumption | omega) dX8_walks_112 rfl ?_
  refine ax_topi (v' := nI dy) (by rw [pk_un (by omega), pk_un (by omega), pk_un (by omega), pk_un (by omega), pk_un (by omega)]; exact l2) ?_
  refine ax_aload_n (pc' := 114) rfl dX8_walks_113 rfl ?_
  refine ax_iload_n (pc' := 115) rfl dX8_walks_114 rfl ?_
  refine ax_iload (pc' := 117) rfl dX8_walks_115 rfl ?_
  refine ax_callVR (pc' := 120) lv_X8_177 (m_road hM5 hb ha hc) M_o rfl rfl (Nat.le_of_ble_eq_true rfl) (Nat.le_of_ble_eq_true rfl) dX8_walks_117 rfl ?_
  refine ax_aload_n (pc' := 121) rfl dX8_walks_120 rfl ?_
  refine ax_getf (pc' := 124) fl_X8_22 M_o rfl dX8_walks_121 rfl ?_
  refine ax_iload_n (pc' := 125) rfl dX8_walks_124 rfl ?_
  refine ax_iald (pc' := 126) M_pace rfl (by omega) (by first | decide | assumption | omega) dX8_walks_125 rfl ?_
  refine ax_topi e2 ?_
  refine ax_idiv (pc' := 127) (nI_ne0 (by omega) (by omega)) dX8_walks_126 rfl ?_
  refine ax_topi (pk_div (by omega) (by omega) (by omega)) ?_
  refine ax_iconst (pc' := 128) (v := (nI 1)) kc_1 dX8_walks_127 rfl ?_
  refine ax_iadd (pc' := 129) dX8_walks_128 rfl ?_
  refine ax_topi (nI_add _ 1) ?_
  refine ax_iadd (pc' := 130) dX8_walks_129 rfl ?_
  refine ax_topi (v' := nI (dy + sp_days b w a c)) (by rw [nI_add]; rfl) ?_
  refine ax_iasu (pc' := 131) M_slot rfl (by omega) (by first | decide | assumption | omega) dX8_walks_130 rfl (fun s6 h6 => ?_)
  refine ax_iload (pc' := 133) rfl dX8_walks_131 rfl ?_
  refine ax_iret dX8_walks_133 rfl (Nat.le_refl 0) (Nat.le_refl 0) ⟨by rw [hn], upd (upd (upd (upd (upd (upd f (p + 4 * r) (nI w)) (p + 4 * r + 1) (nI a)) (p + 4 * r + 2) (nI c)) (p + 4 * r + 3) (nI n)) (p + 36) (nI (r + 1))) (p + 37) (nI (dy + sp_days b w a c)), ?_, ⟨?_, ?_, fun i hi => ?_⟩, fun x hx => ?_⟩
  · rw [h6, h5, h4, h3, h2, h1]
    simp only [ax_up2]
  · rw [pk_un (by omega), pk_us, List.length_append, hr]
    rfl
  · rw [pk_us]
  · rw [sp_at_snoc hi]
    rw [List.length_append, ← hr] at hi
    have hi : i < r + 1 := hi
    by_cases e : i = r
    · subst e
      rw [if_pos hr]
      refine ⟨?_, ?_, ?_, ?_⟩
      · rw [pk_un (by omega), pk_un (by omega), pk_un (by omega), pk_un (by omega), pk_un (by omega), pk_us]; rfl
      · rw [pk_un (by omega), pk_un (by omega), pk_un (by omega), pk_un (by omega), pk_us]; rfl
      · rw [pk_un (by omega), pk_un (by omega), pk_un (by omega), pk_us]; rfl
      · rw [pk_un (by omega), pk_un (by omega), pk_us, hn]
    · rw [if_neg (by omega)]
      obtain ⟨g0, g1, g2, g3⟩ := l3 i (by omega)
      refine ⟨?_, ?_, ?_, ?_⟩
      · rw [pk_un (by omega), pk_un (by omega), pk_un (by omega), pk_un (by omega), pk_un (by omega), pk_un (by omega)]; exact g0
      · rw [pk_un (by omega), pk_un (by omega), pk_un (by omega), pk_un (by omega), pk_un (by omega), pk_un (by omega)]; exact g1
      · rw [pk_un (by omega), pk_un (by omega), pk_un (by omega), pk_un (by omega), pk_un (by omega), pk_un (by omega)]; exact g2
      · rw [pk_un (by omega), pk_un (by omega), pk_un (by omega), pk_un (by omega), pk_un (by omega), pk_un (by omega)]; exact g3
  · rw [pk_un (by omega), pk_un (by omega), pk_un (by omega), pk_un (by omega), pk_un (by omega), pk_un (by omega)]
theorem m_strikes {r : Nat} (hM : ml_At σ.1 b f) (hL : sl_At f p rs dy) (hp : p + 38 ≤ 456) (h9 : rs.length ≤ 9) (hr : r < rs.length) : ax_N mX8_strikes 0 0 0 [.ref 56, .int (nI p), .int (nI r)] σ (sl_Po σ f p none (sp_del rs r) dy) := by
  obtain ⟨⟨ng, nt, nw, ac, kp, ln, ap, bg, wr, se, M_o⟩, ⟨fl, fn, fb, fk, fp, fu, M_north, M_lean, M_bend, M_sort, M_pace, M_unit, r1, r2, r3⟩, M_slot⟩ := id hM
  obtain ⟨l1, l2, l3⟩ := hL
  refine ax_N.of (ls := [some (.ref 56), some (.int (nI p)), some (.int (nI r)), none]) (by decide +kernel) rfl (Nat.le_of_ble_eq_true rfl) ?_
  refine ax_iconst (pc' := 1) (v := (nI 4)) kc_4 dX8_strikes_0 rfl ?_
  refine ax_iload_n (pc' := 2) rfl dX8_strikes_1 rfl ?_
  refine ax_imul (pc' := 3) dX8_strikes_2 rfl ?_
  refine ax_topi (pk_mul 4 r) ?_
  refine ax_istore_n (pc' := 4) rfl (Nat.le_of_ble_eq_true rfl) dX8_strikes_3 rfl ?_
  have K : ∀ m i, i + m = 32 → 4 * r ≤ i → ∀ τ : ax_S, τ = (ax_up σ.1 69 (.inl (false, 456, sl_sh f (p + 4 * r) (p + i) 4)), σ.2) → ax_J (mX8_strikes, 0, 0, 0) 0 0 4 [some (.ref 56), some (.int (nI p)), some (.int (nI r)), some (.int (nI i))] [] τ (sl_Po σ f p none (sp_del rs r) dy) := by
    intro m
    induction m with
    | zero =>
      intro i hi hri τ hτ
      have hi : i = 32 := hi
      subst hi
      have M_o := ax_kN hτ M_o (by decide)
      have M_slot := ax_kS hτ
      refine ax_iload_n (pc' := 5) rfl dX8_strikes_4 rfl ?_
      refine ax_bipush (pc' := 7) (v := (nI 32)) kb_32 dX8_strikes_5 rfl ?_
      refine ax_icmp_ge (pc' := 10) (tgt := 34) dX8_strikes_7 (by decide) rfl (fun _ => ?_) (fun hz => absurd ((by decide)) hz)
      refine ax_aload_n (pc' := 35) rfl dX8_strikes_34 rfl ?_
      refine ax_getf (pc' := 38) fl_X8_46 M_o rfl dX8_strikes_35 rfl ?_
      refine ax_iload_n (pc' := 39) rfl dX8_strikes_38 rfl ?_
      refine ax_bipush (pc' := 41) (v := (nI 36)) kb_36 dX8_strikes_39 rfl ?_
      refine ax_iadd (pc' := 42) dX8_strikes_41 rfl ?_
      refine ax_topi (nI_add p 36) ?_
      refine ax_dup2 (pc' := 43) rfl rfl dX8_strikes_42 rfl ?_
      refine ax_iald (pc' := 44) M_slot rfl (by omega) (by first | decide | assumption | omega) dX8_strikes_43 rfl ?_
      refine ax_topi (v' := nI rs.length) (by simp only [sl_sh]; rw [if_neg (by omega)]; exact l1) ?_
      refine ax_iconst (pc' := 45) (v := (nI 1)) kc_1 dX8_strikes_44 rfl ?_
      refine ax_isub (pc' := 46) dX8_strikes_45 rfl ?_
      refine ax_topi (v' := nI (rs.length - 1)) (pk_sub (by omega)) ?_
      refine ax_iasu (pc' := 47) M_slot rfl (by omega) (by first | decide | assumption | omega) dX8_strikes_46 rfl (fun s1 h1 => ?_)
      refine ax_vret dX8_strikes_47 rfl (Nat.le_refl 0) (Nat.le_refl 0) ⟨rfl, upd (sl_sh f (p + 4 * r) (p + 32) 4) (p + 36) (nI (rs.length - 1)), ?_, ⟨?_, ?_, fun i hi => ?_⟩, fun x hx => ?_⟩
      · rw [h1, hτ]
        simp only [ax_up2]
      · rw [pk_us, sp_del_len hr]
      · rw [pk_un (by omega)]
        simp only [sl_sh]
        rw [if_neg (by omega)]
        exact l2
      · rw [sp_del_len hr] at hi
        rw [sp_at_del hr, pk_un (by omega), pk_un (by omega), pk_un (by omega), pk_un (by omega)]
        simp only [sl_sh]
        by_cases e : i < r
        · rw [if_pos e, if_neg (by omega), if_neg (by omega), if_neg (by omega), if_neg (by omega)]
          exact l3 i (by omega)
        · rw [if_neg e, if_pos (by omega), if_pos (by omega), if_pos (by omega), if_pos (by omega)]
          have := l3 (i + 1) (by omega)
          rw [show p + 4 * (i + 1) = p + 4 * i + 4 by omega, show p + 4 * i + 4 + 1 = p + 4 * i + 1 + 4 by omega, show p + 4 * i + 4 + 2 = p + 4 * i + 2 + 4 by omega, show p + 4 * i + 4 + 3 = p + 4 * i + 3 + 4 by omega] at this
          exact this
      · rw [pk_un (by omega)]
        simp only [sl_sh]
        rw [if_neg (by omega)]
    | succ m ih =>
      intro i hi hri τ hτ
      have M_o := ax_kN hτ M_o (by decide)
      have M_slot := ax_kS hτ
      refine ax_iload_n (pc' := 5) rfl dX8_strikes_4 rfl ?_
      refine ax_bipush (pc' := 7) (v := (nI 32)) kb_32 dX8_strikes_5 rfl ?_
      refine ax_icmp_ge (pc' := 10) (tgt := 34) dX8_strikes_7 (by decide) rfl (fun hz => absurd hz (nI_ge (by omega) (by decide))) (fun _ => ?_)
      refine ax_aload_n (pc' := 11) rfl dX8_strikes_10 rfl ?_
      refine ax_getf (pc' := 14) fl_X8_46 M_o rfl dX8_strikes_11 rfl ?_
      refine ax_iload_n (pc' := 15) rfl dX8_strikes_14 rfl ?_
      refine ax_iload_n (pc' := 16) rfl dX8_strikes_15 rfl ?_
      refine ax_iadd (pc' := 17) dX8_strikes_16 rfl ?_
      refine ax_topi (nI_add p i) ?_
      refine ax_aload_n (pc' := 18) rfl dX8_strikes_17 rfl ?_
      refine ax_getf (pc' := 21) fl_X8_46 M_o rfl dX8_strikes_18 rfl ?_
      refine ax_iload_n (pc' := 22) rfl dX8_strikes_21 rfl ?_
      refine ax_iload_n (pc' := 23) rfl dX8_strikes_22 rfl ?_
      refine ax_iadd (pc' := 24) dX8_strikes_23 rfl ?_
      refine ax_iconst (pc' := 25) (v := (nI 4)) kc_4 dX8_strikes_24 rfl ?_
      refine ax_iadd (pc' := 26) dX8_strikes_25 rfl ?_
      refine ax_topi (v' := nI (p + i + 4)) (by rw [nI_add, nI_add]) ?_
      refine ax_iald (pc' := 27) M_slot rfl (by omega) (by first | decide | assumption | omega) dX8_strikes_26 rfl ?_
      refine ax_iasu (pc' := 28) M_slot rfl (by omega) (by first | decide | assumption | omega) dX8_strikes_27 rfl (fun s1 h1 => ?_)
      refine ax_iinc1 (pc' := 31) rfl rfl (Nat.le_of_ble_eq_true rfl) dX8_strikes_28 rfl ?_
      refine ax_goto (tgt := 4) dX8_strikes_31 (by decide) ?_
      refine ih (i + 1) (by omega) (by omega) s1 ?_
      rw [h1, hτ]
      simp only [ax_up2]
      exact ax_arr (fun x => sl_sh_step (by omega) (by decide) x)
  refine K (32 - 4 * r) (4 * r) (by omega) (Nat.le_refl _) σ ?_
  have e : sl_sh f (p + 4 * r) (p + 4 * r) 4 = f := by
    funext x
    simp only [sl_sh]
    rw [if_neg (by omega)]
  rw [e, ax_upi M_slot]
theorem m_known (hx : ms_At σ.1 S) (hS : sp_Ok S) : ax_N mX8_known 1 0 0 [.ref 56] σ (fun r τ => r = none ∧ ms_At τ.1 (S.1, S.2.1, S.2.2.1, sp_mk S.2.2.2.1 ++ [S.2.2.1], S.2.2.2.2) ∧ ax_fr 56 19 σ τ) := by
  obtain ⟨ng, nt, nw, ap, bg, wr, f, M_o, hMb, M_slot, hSl, hNew, hTx, hSg⟩ := id hx
  obtain ⟨hs1, hs2, hs3⟩ := hSl
  have h9 := hS.2.2.2.1.1
  have h8 := hS.2.2.2.2.1
  have hk2 := hS.2.2.2.2.2.2.1
  have hus : ∀ (i : Nat) (u : sp_Bk), S.2.2.2.1[i]? = some u → u.1.length ≤ 9 := fun i u h => (hS.2.2.2.2.2.1 u (List.mem_of_getElem? h)).1
  have hks : ∀ (i : Nat) (u : sp_Bk), S.2.2.2.2.1[i]? = some u → i < 2 ∧ u.1.length ≤ 9 := fun i u h => ⟨Nat.lt_of_lt_of_le (List.getElem?_eq_some_iff.mp h).1 hk2, (hS.2.2.2.2.2.2.2.1 u (List.mem_of_getElem? h)).1⟩
  refine ax_N.of (ls := [some (.ref 56), none]) (by decide +kernel) rfl (Nat.le_of_ble_eq_true rfl) ?_
  refine ax_aload_n (pc' := 1) rfl dX8_known_0 rfl ?_
  refine ax_getf (pc' := 4) fl_X8_149 M_o rfl dX8_known_1 rfl ?_
  refine ax_bipush (pc' := 6) (v := (nI 8)) kb_8 dX8_known_4 rfl ?_
  have T : ∀ (us : List sp_Bk) (g : Nat → Int32) (τ : ax_S) (z1 : Option Value), us.length ≤ 7 → us = sp_mk S.2.2.2.1 → (∀ (i : Nat) (u : sp_Bk), us[i]? = some u → u.1.length ≤ 9) → τ.1 56 = some (.inr (8, mo_f (nI S.2.1.1) (nI S.2.1.2.1) (nI S.2.1.2.2.1) ng nt nw (nI us.length) (nI S.2.2.2.2.1.length) (nI S.1.1) ap bg wr (nI S.2.2.2.2.2.length))) → τ.1 69 = some (.inl (false, 456, g)) → ms_sl g S.2.2.1 us S.2.2.2.2.1 → (∀ q, q ≠ 56 → q ≠ 69 → τ.1 q = σ.1 q) → τ.2 = σ.2 → ax_J (mX8_known, 1, 0, 0) 0 0 46 [some (.ref 56), z1] [] τ (fun r τ => r = none ∧ ms_At τ.1 (S.1, S.2.1, S.2.2.1, sp_mk S.2.2.2.1 ++ [S.2.2.1], S.2.2.2.2) ∧ ax_fr 56 19 σ τ) := by
    intro us g τ z1 hu7 husm hul M_o M_slot hsl hsame hsz
    obtain ⟨t1, t2, t3⟩ := hsl
    refine ax_aload_n (pc' := 47) rfl dX8_known_46 rfl ?_
    refine ax_dup (pc' := 48) rfl dX8_known_47 rfl ?_
    refine ax_getf (pc' := 51) fl_X8_149 M_o rfl dX8_known_48 rfl ?_
    refine ax_iconst (pc' := 52) (v := (nI 1)) kc_1 dX8_known_51 rfl ?_
    refine ax_iadd (pc' := 53) dX8_known_52 rfl ?_
    refine ax_topi (nI_add us.length 1) ?_
    refine ax_putu (pc' := 56) fp_X8_149 M_o rfl (fun _ => ⟨rfl, rfl⟩) dX8_known_53 rfl (fun s1 h1 => ?_)
    have M_o := ax_kS h1
    have M_slot := ax_kN h1 M_slot (by omega)
    have hM1 : ml_At s1.1 S.2.1 g := ⟨⟨ng, nt, nw, _, _, _, ap, bg, wr, _, M_o⟩, hMb.on (fun q _ _ => (ax_kF h1 (by omega)).trans (hsame q (by omega) (by omega))), M_slot⟩
    refine ax_aload_n (pc' := 57) rfl dX8_known_56 rfl ?_
    refine ax_iconst (pc' := 58) (v := (nI 0)) kc_0 dX8_known_57 rfl ?_
    refine ax_aload_n (pc' := 59) rfl dX8_known_58 rfl ?_
    refine ax_getf (pc' := 62) fl_X8_149 M_o rfl dX8_known_59 rfl ?_
    refine ax_bipush (pc' := 64) (v := (nI 38)) kb_38 dX8_known_62 rfl ?_
    refine ax_imul (pc' := 65) dX8_known_64 rfl ?_
    refine ax_topi (v' := nI (38 * (us.length + 1))) (by rw [pk_mul, Nat.mul_comm]) ?_
    refine ax_callVU (pc' := 68) lv_X8_214 (m_copies (p := 0) (q := 38 * (us.length + 1)) hM1 (by decide) (by omega) (by omega)) M_o rfl rfl (Nat.le_of_ble_eq_true rfl) (Nat.le_of_ble_eq_true rfl) dX8_known_65 rfl (fun s2 h2 => ?_)
    have M_slot := ax_kS h2
    have M_o := ax_kN h2 M_o (by omega)
    have G : ∀ q, q ≠ 56 → q ≠ 69 → s2.1 q = σ.1 q := fun q a1 a2 => (ax_kF h2 a2).trans ((ax_kF h1 a1).trans (hsame q a1 a2))
    have hlen : (sp_mk S.2.2.2.1 ++ [S.2.2.1]).length = us.length + 1 := by rw [← husm]; simp
    refine ax_vret dX8_known_68 rfl (Nat.le_refl 0) (Nat.le_refl 0) ⟨rfl, ⟨ng, nt, nw, ap, bg, wr, _, by rw [hlen]; exact M_o, hMb.on (fun q _ _ => G q (by omega) (by omega)), M_slot, ⟨?_, fun i u hi => ?_, fun i u hi => ?_⟩, hNew.on (fun q _ _ => G q (by omega) (by omega)), hTx.on (G 70 (by decide) (by decide)), hSg.on (fun q _ _ => G q (by omega) (by omega))⟩, ⟨(ax_k2 h2).trans ((ax_k2 h1).trans hsz), fun q hq => G q (by omega) (by omega)⟩⟩
    · exact t1.mv h9 (fun x hx => sl_cp_out (by omega))
    · dsimp only at hi
      rw [← husm] at hi
      by_cases e : i < us.length
      · rw [List.getElem?_append_left e] at hi
        exact (t2 i u hi).mv (hul i u hi) (fun x hx => sl_cp_out (by omega))
      · have e2 : i = us.length := by
          have := (List.getElem?_eq_some_iff.mp hi).1
          simp at this
          omega
        subst e2
        rw [List.getElem?_append_right (Nat.le_refl _), Nat.sub_self] at hi
        cases hi
        exact t1.mv h9 (fun x hx => sl_cp_in hx)
    · obtain ⟨b1, b2⟩ := hks i u hi
      exact (t3 i u hi).mv b2 (fun x hx => sl_cp_out (by omega))
  by_cases e8 : S.2.2.2.1.length = 8
  · rw [e8] at M_o
    refine ax_icmp_ne (pc' := 9) (tgt := 46) dX8_known_6 (by decide) rfl (fun hz => absurd (by rw [e8]) hz) (fun _ => ?_)
    refine ax_bipush (pc' := 11) (v := (nI 38)) kb_38 dX8_known_9 rfl ?_
    refine ax_istore_n (pc' := 12) rfl (Nat.le_of_ble_eq_true rfl) dX8_known_11 rfl ?_
    have K : ∀ m i, i + m = 304 → 38 ≤ i → ∀ τ : ax_S, τ = (ax_up σ.1 69 (.inl (false, 456, sl_sh f 38 i 38)), σ.2) → ax_J (mX8_known, 1, 0, 0) 0 0 12 [some (.ref 56), some (.int (nI i))] [] τ (fun r τ => r = none ∧ ms_At τ.1 (S.1, S.2.1, S.2.2.1, sp_mk S.2.2.2.1 ++ [S.2.2.1], S.2.2.2.2) ∧ ax_fr 56 19 σ τ) := by
      intro m
      induction m with
      | zero =>
        intro i hi hi38 τ hτ
        have hi : i = 304 := hi
        subst hi
        have M_o := ax_kN hτ M_o (by decide)
        have M_slot := ax_kS hτ
        refine ax_iload_n (pc' := 13) rfl dX8_known_12 rfl ?_
        refine ax_sipush (pc' := 16) (v := (nI 304)) ks_304 dX8_known_13 rfl ?_
        refine ax_icmp_ge (pc' := 19) (tgt := 40) dX8_known_16 (by decide) rfl (fun _ => ?_) (fun hz => absurd ((by decide)) hz)
        refine ax_aload_n (pc' := 41) rfl dX8_known_40 rfl ?_
        refine ax_bipush (pc' := 43) (v := (nI 7)) kb_7 dX8_known_41 rfl ?_
        refine ax_putu (pc' := 46) fp_X8_149 M_o rfl (fun _ => ⟨rfl, rfl⟩) dX8_known_43 rfl (fun s1 h1 => ?_)
        have M_o := ax_kS h1
        have M_slot := ax_kN h1 M_slot (by omega)
        have hmk : sp_mk S.2.2.2.1 = S.2.2.2.1.tail := by unfold sp_mk; rw [if_neg (by omega)]
        have htl : S.2.2.2.1.tail.length = 7 := by rw [List.length_tail, e8]
        refine T S.2.2.2.1.tail _ s1 _ (by omega) hmk.symm (fun i u h => hus (i + 1) u (by rw [List.getElem?_tail] at h; exact h)) (by rw [htl]; exact M_o) M_slot ⟨?_, fun i u h => ?_, fun i u h => ?_⟩ (fun q a1 a2 => (ax_kF h1 a1).trans (ax_kF hτ a2)) ((ax_k2 h1).trans (ax_k2 hτ))
        · exact hs1.mv h9 (fun x hx => by simp only [sl_sh]; rw [if_neg (by omega)])
        · have hil : i < 7 := by have := (List.getElem?_eq_some_iff.mp h).1; omega
          rw [List.getElem?_tail] at h
          exact (hs2 (i + 1) u h).mv (hus _ u h) (fun x hx => by simp only [sl_sh]; rw [if_pos (by omega)]; congr 1; omega)
        · obtain ⟨b1, b2⟩ := hks i u h
          exact (hs3 i u h).mv b2 (fun x hx => by simp only [sl_sh]; rw [if_neg (by omega)])
      | succ m ih =>
        intro i hi hi38 τ hτ
        have M_o := ax_kN hτ M_o (by decide)
        have M_slot := ax_kS hτ
        refine ax_iload_n (pc' := 13) rfl dX8_known_12 rfl ?_
        refine ax_sipush (pc' := 16) (v := (nI 304)) ks_304 dX8_known_13 rfl ?_
        refine ax_icmp_ge (pc' := 19) (tgt := 40) dX8_known_16 (by decide) rfl (fun hz => absurd hz (nI_ge (by omega) (by decide))) (fun _ => ?_)
        refine ax_aload_n (pc' := 20) rfl dX8_known_19 rfl ?_
        refine ax_getf (pc' := 23) fl_X8_46 M_o rfl dX8_known_20 rfl ?_
        refine ax_iload_n (pc' := 24) rfl dX8_known_23 rfl ?_
        refine ax_aload_n (pc' := 25) rfl dX8_known_24 rfl ?_
        refine ax_getf (pc' := 28) fl_X8_46 M_o rfl dX8_known_25 rfl ?_
        refine ax_iload_n (pc' := 29) rfl dX8_known_28 rfl ?_
        refine ax_bipush (pc' := 31) (v := (nI 38)) kb_38 dX8_known_29 rfl ?_
        refine ax_iadd (pc' := 32) dX8_known_31 rfl ?_
        refine ax_topi (nI_add i 38) ?_
        refine ax_iald (pc' := 33) M_slot rfl (by omega) (by first | decide | assumption | omega) dX8_known_32 rfl ?_
        refine ax_iasu (pc' := 34) M_slot rfl (by omega) (by first | decide | assumption | omega) dX8_known_33 rfl (fun s1 h1 => ?_)
        refine ax_iinc1 (pc' := 37) rfl rfl (Nat.le_of_ble_eq_true rfl) dX8_known_34 rfl ?_
        refine ax_goto (tgt := 12) dX8_known_37 (by decide) ?_
        refine ih (i + 1) (by omega) (by omega) s1 ?_
        rw [h1, hτ]
        simp only [ax_up2]
        exact ax_arr (fun x => sl_sh_step hi38 (by decide) x)
    refine K 266 38 (by decide) (by decide) σ ?_
    have e : sl_sh f 38 38 38 = f := by
      funext x
      simp only [sl_sh]
      rw [if_neg (by omega)]
    rw [e, ax_upi M_slot]
  · refine ax_icmp_ne (pc' := 9) (tgt := 46) dX8_known_6 (by decide) rfl (fun _ => ?_) (fun hz => absurd hz (fun h => e8 ((nI_eq (by omega) (by decide)).mp h)))
    have hmk : sp_mk S.2.2.2.1 = S.2.2.2.1 := by unfold sp_mk; rw [if_pos (by omega)]
    exact T S.2.2.2.1 f σ _ (by omega) hmk.symm hus M_o M_slot ⟨hs1, hs2, hs3⟩ (fun q _ _ => rfl) rfl
end MS
