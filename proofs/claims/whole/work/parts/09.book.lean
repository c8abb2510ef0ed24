/-! ===== REPORTS ===== -/
abbrev sp_rep : Type := Nat × Nat × Nat × Nat
def sp_at (rs : List sp_rep) (i : Nat) : sp_rep := rs.getD i (0, 0, 0, 0)
def sp_ins (rs : List sp_rep) (r : Nat) (q : sp_rep) : List sp_rep := rs.take r ++ q :: rs.drop r
def sp_del (rs : List sp_rep) (r : Nat) : List sp_rep := rs.take r ++ rs.drop (r + 1)
theorem sp_ins_len {rs : List sp_rep} {r : Nat} {q : sp_rep} (h : r ≤ rs.length) : (sp_ins rs r q).length = rs.length + 1 := by
  simp [sp_ins]; omega
theorem sp_del_len {rs : List sp_rep} {r : Nat} (h : r < rs.length) : (sp_del rs r).length = rs.length - 1 := by
  simp [sp_del]; omega
theorem sp_at_ins {rs : List sp_rep} {r i : Nat} {q : sp_rep} (h : r ≤ rs.length) : sp_at (sp_ins rs r q) i = if i < r then sp_at rs i else if i = r then q else sp_at rs (i - 1) := by
  simp only [sp_at, List.getD_eq_getElem?_getD]
  congr 1
  unfold sp_ins
  have ht : (rs.take r).length = r := by simp; omega
  by_cases h1 : i < r
  · rw [List.getElem?_append_left (by omega), if_pos h1, List.getElem?_take, if_pos h1]
  · rw [List.getElem?_append_right (by omega), ht, if_neg h1]
    by_cases h2 : i = r
    · subst h2
      simp
    · rw [if_neg h2, show i - r = (i - 1 - r) + 1 by omega, List.getElem?_cons_succ, List.getElem?_drop, show r + (i - 1 - r) = i - 1 by omega]
theorem sp_at_del {rs : List sp_rep} {r i : Nat} (h : r < rs.length) : sp_at (sp_del rs r) i = if i < r then sp_at rs i else sp_at rs (i + 1) := by
  simp only [sp_at, List.getD_eq_getElem?_getD]
  congr 1
  unfold sp_del
  have ht : (rs.take r).length = r := by simp; omega
  by_cases h1 : i < r
  · rw [List.getElem?_append_left (by omega), if_pos h1, List.getElem?_take, if_pos h1]
  · rw [List.getElem?_append_right (by omega), ht, if_neg h1, List.getElem?_drop, show r + 1 + (i - r) = i + 1 by omega]
theorem sp_ext {l m : List sp_rep} (h : l.length = m.length) (ha : ∀ i, i < l.length → sp_at l i = sp_at m i) : l = m := by
  apply List.ext_getElem h
  intro i h1 h2
  have := ha i h1
  simp only [sp_at, List.getD_eq_getElem?_getD, List.getElem?_eq_getElem h1, List.getElem?_eq_getElem h2, Option.getD_some] at this
  exact this
theorem sp_ins_del {rs : List sp_rep} {r : Nat} (h : r < rs.length) : sp_ins (sp_del rs r) r (sp_at rs r) = rs := by
  have hl : r ≤ (sp_del rs r).length := by rw [sp_del_len h]; omega
  refine sp_ext (by rw [sp_ins_len hl, sp_del_len h]; omega) (fun i hi => ?_)
  rw [sp_at_ins hl]
  by_cases h1 : i < r
  · rw [if_pos h1, sp_at_del h, if_pos h1]
  · rw [if_neg h1]
    by_cases h2 : i = r
    · rw [if_pos h2, h2]
    · rw [if_neg h2, sp_at_del h, if_neg (by omega), show i - 1 + 1 = i by omega]
theorem sp_ins_end {rs : List sp_rep} {q : sp_rep} : sp_ins rs rs.length q = rs ++ [q] := by simp [sp_ins]
theorem sp_del_end {rs : List sp_rep} {q : sp_rep} : sp_del (rs ++ [q]) rs.length = rs := by simp [sp_del]
/-- a book's cells at p..p+4 -/
def bk_At (h : ax_H) (p : Nat) (rs : List sp_rep) (dy : Nat) : Prop := ∃ fw ff ft fs : Nat → Int32,
  h p = some (.inr (1, [.ref (p + 1), .ref (p + 2), .ref (p + 3), .ref (p + 4), .int (nI rs.length), .int (nI dy)])) ∧
  h (p + 1) = some (.inl (false, 9, fw)) ∧ h (p + 2) = some (.inl (false, 9, ff)) ∧ h (p + 3) = some (.inl (false, 9, ft)) ∧ h (p + 4) = some (.inl (false, 9, fs)) ∧
  ∀ i, i < rs.length → fw i = nI (sp_at rs i).1 ∧ ff i = nI (sp_at rs i).2.1 ∧ ft i = nI (sp_at rs i).2.2.1 ∧ fs i = nI (sp_at rs i).2.2.2
def bk_Any (h : ax_H) (p : Nat) : Prop := ∃ (s d : Int32) (fw ff ft fs : Nat → Int32),
  h p = some (.inr (1, [.ref (p + 1), .ref (p + 2), .ref (p + 3), .ref (p + 4), .int s, .int d])) ∧
  h (p + 1) = some (.inl (false, 9, fw)) ∧ h (p + 2) = some (.inl (false, 9, ff)) ∧ h (p + 3) = some (.inl (false, 9, ft)) ∧ h (p + 4) = some (.inl (false, 9, fs))
theorem bk_At.any {h : ax_H} {p dy : Nat} {rs : List sp_rep} (hK : bk_At h p rs dy) : bk_Any h p := by
  obtain ⟨fw, ff, ft, fs, K_o, K_who, K_from, K_to, K_stadia, -⟩ := hK
  exact ⟨_, _, fw, ff, ft, fs, K_o, K_who, K_from, K_to, K_stadia⟩
theorem bk_At.fr {σ τ : ax_S} {p q k dy : Nat} {rs : List sp_rep} (hK : bk_At σ.1 p rs dy) (h : ax_fr q k σ τ) (hd : p + 5 ≤ q ∨ q + k ≤ p) : bk_At τ.1 p rs dy := by
  obtain ⟨fw, ff, ft, fs, K_o, K_who, K_from, K_to, K_stadia, r⟩ := hK
  exact ⟨fw, ff, ft, fs, h.at K_o (by omega), h.at K_who (by omega), h.at K_from (by omega), h.at K_to (by omega), h.at K_stadia (by omega), r⟩
theorem bk_Any.fr {σ τ : ax_S} {p q k : Nat} (hK : bk_Any σ.1 p) (h : ax_fr q k σ τ) (hd : p + 5 ≤ q ∨ q + k ≤ p) : bk_Any τ.1 p := by
  obtain ⟨s, d, fw, ff, ft, fs, K_o, K_who, K_from, K_to, K_stadia⟩ := hK
  exact ⟨s, d, fw, ff, ft, fs, h.at K_o (by omega), h.at K_who (by omega), h.at K_from (by omega), h.at K_to (by omega), h.at K_stadia (by omega)⟩
abbrev bk_Po (p : Nat) (σ : ax_S) (rs : List sp_rep) (dy : Nat) : Option Value → ax_S → Prop := fun r τ => r = none ∧ bk_At τ.1 p rs dy ∧ ax_fr p 5 σ τ
theorem c_Book_clear {σ : ax_S} {p : Nat} (hK : bk_Any σ.1 p) : ax_N mX1_clear 0 0 0 [.ref p] σ (bk_Po p σ [] 0) := by
  obtain ⟨s, d, fw, ff, ft, fs, K_o, K_who, K_from, K_to, K_stadia⟩ := hK
  refine ax_N.of (ls := [some (.ref p)]) (by decide +kernel) rfl (Nat.le_of_ble_eq_true rfl) ?_
  refine ax_aload_n (pc' := 1) rfl dX1_clear_0 rfl ?_
  refine ax_iconst (pc' := 2) (v := (nI 0)) kc_0 dX1_clear_1 rfl ?_
  refine ax_putu (pc' := 5) fp_X1_24 K_o rfl (fun _ => ⟨rfl, rfl⟩) dX1_clear_2 rfl (fun s1 h1 => ?_)
  have K_o := ax_kS h1
  have K_who := ax_kN h1 K_who (by omega)
  have K_from := ax_kN h1 K_from (by omega)
  have K_to := ax_kN h1 K_to (by omega)
  have K_stadia := ax_kN h1 K_stadia (by omega)
  refine ax_aload_n (pc' := 6) rfl dX1_clear_5 rfl ?_
  refine ax_iconst (pc' := 7) (v := (nI 0)) kc_0 dX1_clear_6 rfl ?_
  refine ax_putu (pc' := 10) fp_X1_28 K_o rfl (fun _ => ⟨rfl, rfl⟩) dX1_clear_7 rfl (fun s2 h2 => ?_)
  have K_o := ax_kS h2
  have K_who := ax_kN h2 K_who (by omega)
  have K_from := ax_kN h2 K_from (by omega)
  have K_to := ax_kN h2 K_to (by omega)
  have K_stadia := ax_kN h2 K_stadia (by omega)
  exact ax_vret dX1_clear_10 rfl (Nat.le_of_ble_eq_true rfl) (Nat.le_of_ble_eq_true rfl) (⟨rfl, ⟨fw, ff, ft, fs, K_o, K_who, K_from, K_to, K_stadia, fun i hi => absurd hi (Nat.not_lt_zero _)⟩, (ax_fr.rf.up h1 (by omega) (by omega)).up h2 (by omega) (by omega)⟩)
theorem c_hasT {σ : ax_S} {p j dy : Nat} {rs : List sp_rep} (hK : bk_At σ.1 p rs dy) (h9 : rs.length ≤ 9) (hj : j < rs.length) : ax_R mX1_has 0 [.ref p, .int (nI j)] σ (.int (nI 1)) := by
  obtain ⟨fw, ff, ft, fs, K_o, -⟩ := hK
  refine ax_N.of (ls := [some (.ref p), some (.int (nI j))]) (by decide +kernel) rfl (Nat.le_of_ble_eq_true rfl) ?_
  refine ax_iload_n (pc' := 1) rfl dX1_has_0 rfl ?_
  refine ax_if_lt (pc' := 4) (tgt := 16) dX1_has_1 (by decide) rfl (fun hz => absurd hz (nI_pos (by omega))) (fun _ => ?_)
  refine ax_iload_n (pc' := 5) rfl dX1_has_4 rfl ?_
  refine ax_aload_n (pc' := 6) rfl dX1_has_5 rfl ?_
  refine ax_getf (pc' := 9) fl_X1_24 K_o rfl dX1_has_6 rfl ?_
  refine ax_icmp_ge (pc' := 12) (tgt := 16) dX1_has_9 (by decide) rfl (fun hz => absurd hz (nI_ge hj (by omega))) (fun _ => ?_)
  refine ax_iconst (pc' := 13) (v := (nI 1)) kc_1 dX1_has_12 rfl ?_
  refine ax_goto (tgt := 17) dX1_has_13 (by decide) ?_
  exact ax_zret dX1_has_17 rfl (by decide) (Nat.le_of_ble_eq_true rfl) (Nat.le_of_ble_eq_true rfl) (⟨rfl, rfl⟩)
theorem c_hasF {σ : ax_S} {p dy : Nat} {v : Int32} {rs : List sp_rep} (hK : bk_At σ.1 p rs dy) (h9 : rs.length ≤ 9) (hv : ¬ ∃ j, j < rs.length ∧ v = nI j) : ax_R mX1_has 0 [.ref p, .int v] σ (.int (nI 0)) := by
  obtain ⟨fw, ff, ft, fs, K_o, -⟩ := hK
  refine ax_N.of (ls := [some (.ref p), some (.int v)]) (by decide +kernel) rfl (Nat.le_of_ble_eq_true rfl) ?_
  refine ax_iload_n (pc' := 1) rfl dX1_has_0 rfl ?_
  refine ax_if_lt (pc' := 4) (tgt := 16) dX1_has_1 (by decide) rfl (fun h0 => ?_) (fun h0 => ?_)
  · refine ax_iconst (pc' := 17) (v := (nI 0)) kc_0 dX1_has_16 rfl ?_
    exact ax_zret dX1_has_17 rfl (by decide) (Nat.le_of_ble_eq_true rfl) (Nat.le_of_ble_eq_true rfl) (⟨rfl, rfl⟩)
  · obtain ⟨j, hj, rfl⟩ := nI_of h0
    have hge : rs.length ≤ j := Nat.not_lt.mp (fun h => hv ⟨j, h, rfl⟩)
    refine ax_iload_n (pc' := 5) rfl dX1_has_4 rfl ?_
    refine ax_aload_n (pc' := 6) rfl dX1_has_5 rfl ?_
    refine ax_getf (pc' := 9) fl_X1_24 K_o rfl dX1_has_6 rfl ?_
    refine ax_icmp_ge (pc' := 12) (tgt := 16) dX1_has_9 (by decide) rfl (fun _ => ?_) (fun hz => absurd (nI_le hge hj) hz)
    refine ax_iconst (pc' := 17) (v := (nI 0)) kc_0 dX1_has_16 rfl ?_
    exact ax_zret dX1_has_17 rfl (by decide) (Nat.le_of_ble_eq_true rfl) (Nat.le_of_ble_eq_true rfl) (⟨rfl, rfl⟩)
theorem c_insertAt {σ : ax_S} {p r dy w a c n : Nat} {rs : List sp_rep} (hK : bk_At σ.1 p rs dy) (h9 : rs.length < 9) (hr : r ≤ rs.length) : ax_N mX1_insertAt 2 0 0 [.ref p, .int (nI r), .int (nI w), .int (nI a), .int (nI c), .int (nI n)] σ (bk_Po p σ (sp_ins rs r (w, a, c, n)) dy) := by
  obtain ⟨fw, ff, ft, fs, K_o, K_who, K_from, K_to, K_stadia, hv⟩ := hK
  refine ax_N.of (ls := [some (.ref p), some (.int (nI r)), some (.int (nI w)), some (.int (nI a)), some (.int (nI c)), some (.int (nI n))]) (by decide +kernel) rfl (Nat.le_of_ble_eq_true rfl) ?_
  refine ax_iload_n (pc' := 1) rfl dX1_insertAt_0 rfl ?_
  refine ax_if_lt (pc' := 4) (tgt := 21) dX1_insertAt_1 (by decide) rfl (fun hz => absurd hz (nI_pos (by omega))) (fun _ => ?_)
  refine ax_iload_n (pc' := 5) rfl dX1_insertAt_4 rfl ?_
  refine ax_aload_n (pc' := 6) rfl dX1_insertAt_5 rfl ?_
  refine ax_getf (pc' := 9) fl_X1_24 K_o rfl dX1_insertAt_6 rfl ?_
  refine ax_icmp_gt (pc' := 12) (tgt := 21) dX1_insertAt_9 (by decide) rfl (fun hz => absurd hz (nI_nlt hr (by omega))) (fun _ => ?_)
  refine ax_aload_n (pc' := 13) rfl dX1_insertAt_12 rfl ?_
  refine ax_getf (pc' := 16) fl_X1_24 K_o rfl dX1_insertAt_13 rfl ?_
  refine ax_bipush (pc' := 18) (v := (nI 9)) kb_9 dX1_insertAt_16 rfl ?_
  refine ax_icmp_lt (pc' := 21) (tgt := 22) dX1_insertAt_18 (by decide) rfl (fun _ => ?_) (fun hz => absurd (nI_lt h9 (by decide)) hz)
  refine ax_aload_n (pc' := 23) rfl dX1_insertAt_22 rfl ?_
  refine ax_getf (pc' := 26) fl_X1_9 K_o rfl dX1_insertAt_23 rfl ?_
  refine ax_iload_n (pc' := 27) rfl dX1_insertAt_26 rfl ?_
  refine ax_aload_n (pc' := 28) rfl dX1_insertAt_27 rfl ?_
  refine ax_getf (pc' := 31) fl_X1_24 K_o rfl dX1_insertAt_28 rfl ?_
  refine ax_callSU (pc' := 34) ls_X1_35 (c_openGap K_who hr h9 (by decide)) rfl rfl (Nat.le_of_ble_eq_true rfl) (Nat.le_of_ble_eq_true rfl) dX1_insertAt_31 rfl (fun s1 h1 => ?_)
  have K_who := ax_kS h1
  have K_o := ax_kN h1 K_o (by omega)
  have K_from := ax_kN h1 K_from (by omega)
  have K_to := ax_kN h1 K_to (by omega)
  have K_stadia := ax_kN h1 K_stadia (by omega)
  refine ax_aload_n (pc' := 35) rfl dX1_insertAt_34 rfl ?_
  refine ax_getf (pc' := 38) fl_X1_15 K_o rfl dX1_insertAt_35 rfl ?_
  refine ax_iload_n (pc' := 39) rfl dX1_insertAt_38 rfl ?_
  refine ax_aload_n (pc' := 40) rfl dX1_insertAt_39 rfl ?_
  refine ax_getf (pc' := 43) fl_X1_24 K_o rfl dX1_insertAt_40 rfl ?_
  refine ax_callSU (pc' := 46) ls_X1_35 (c_openGap K_from hr h9 (by decide)) rfl rfl (Nat.le_of_ble_eq_true rfl) (Nat.le_of_ble_eq_true rfl) dX1_insertAt_43 rfl (fun s2 h2 => ?_)
  have K_from := ax_kS h2
  have K_o := ax_kN h2 K_o (by omega)
  have K_who := ax_kN h2 K_who (by omega)
  have K_to := ax_kN h2 K_to (by omega)
  have K_stadia := ax_kN h2 K_stadia (by omega)
  refine ax_aload_n (pc' := 47) rfl dX1_insertAt_46 rfl ?_
  refine ax_getf (pc' := 50) fl_X1_18 K_o rfl dX1_insertAt_47 rfl ?_
  refine ax_iload_n (pc' := 51) rfl dX1_insertAt_50 rfl ?_
  refine ax_aload_n (pc' := 52) rfl dX1_insertAt_51 rfl ?_
  refine ax_getf (pc' := 55) fl_X1_24 K_o rfl dX1_insertAt_52 rfl ?_
  refine ax_callSU (pc' := 58) ls_X1_35 (c_openGap K_to hr h9 (by decide)) rfl rfl (Nat.le_of_ble_eq_true rfl) (Nat.le_of_ble_eq_true rfl) dX1_insertAt_55 rfl (fun s3 h3 => ?_)
  have K_to := ax_kS h3
  have K_o := ax_kN h3 K_o (by omega)
  have K_who := ax_kN h3 K_who (by omega)
  have K_from := ax_kN h3 K_from (by omega)
  have K_stadia := ax_kN h3 K_stadia (by omega)
  refine ax_aload_n (pc' := 59) rfl dX1_insertAt_58 rfl ?_
  refine ax_getf (pc' := 62) fl_X1_21 K_o rfl dX1_insertAt_59 rfl ?_
  refine ax_iload_n (pc' := 63) rfl dX1_insertAt_62 rfl ?_
  refine ax_aload_n (pc' := 64) rfl dX1_insertAt_63 rfl ?_
  refine ax_getf (pc' := 67) fl_X1_24 K_o rfl dX1_insertAt_64 rfl ?_
  refine ax_callSU (pc' := 70) ls_X1_35 (c_openGap K_stadia hr h9 (by decide)) rfl rfl (Nat.le_of_ble_eq_true rfl) (Nat.le_of_ble_eq_true rfl) dX1_insertAt_67 rfl (fun s4 h4 => ?_)
  have K_stadia := ax_kS h4
  have K_o := ax_kN h4 K_o (by omega)
  have K_who := ax_kN h4 K_who (by omega)
  have K_from := ax_kN h4 K_from (by omega)
  have K_to := ax_kN h4 K_to (by omega)
  refine ax_aload_n (pc' := 71) rfl dX1_insertAt_70 rfl ?_
  refine ax_getf (pc' := 74) fl_X1_9 K_o rfl dX1_insertAt_71 rfl ?_
  refine ax_iload_n (pc' := 75) rfl dX1_insertAt_74 rfl ?_
  refine ax_iload_n (pc' := 76) rfl dX1_insertAt_75 rfl ?_
  refine ax_callSU (pc' := 79) ls_X1_39 (c_put K_who (j := r) (by omega) (by decide)) rfl rfl (Nat.le_of_ble_eq_true rfl) (Nat.le_of_ble_eq_true rfl) dX1_insertAt_76 rfl (fun s5 h5 => ?_)
  have K_who := ax_kS h5
  have K_o := ax_kN h5 K_o (by omega)
  have K_from := ax_kN h5 K_from (by omega)
  have K_to := ax_kN h5 K_to (by omega)
  have K_stadia := ax_kN h5 K_stadia (by omega)
  refine ax_aload_n (pc' := 80) rfl dX1_insertAt_79 rfl ?_
  refine ax_getf (pc' := 83) fl_X1_15 K_o rfl dX1_insertAt_80 rfl ?_
  refine ax_iload_n (pc' := 84) rfl dX1_insertAt_83 rfl ?_
  refine ax_iload_n (pc' := 85) rfl dX1_insertAt_84 rfl ?_
  refine ax_callSU (pc' := 88) ls_X1_39 (c_put K_from (j := r) (by omega) (by decide)) rfl rfl (Nat.le_of_ble_eq_true rfl) (Nat.le_of_ble_eq_true rfl) dX1_insertAt_85 rfl (fun s6 h6 => ?_)
  have K_from := ax_kS h6
  have K_o := ax_kN h6 K_o (by omega)
  have K_who := ax_kN h6 K_who (by omega)
  have K_to := ax_kN h6 K_to (by omega)
  have K_stadia := ax_kN h6 K_stadia (by omega)
  refine ax_aload_n (pc' := 89) rfl dX1_insertAt_88 rfl ?_
  refine ax_getf (pc' := 92) fl_X1_18 K_o rfl dX1_insertAt_89 rfl ?_
  refine ax_iload_n (pc' := 93) rfl dX1_insertAt_92 rfl ?_
  refine ax_iload (pc' := 95) rfl dX1_insertAt_93 rfl ?_
  refine ax_callSU (pc' := 98) ls_X1_39 (c_put K_to (j := r) (by omega) (by decide)) rfl rfl (Nat.le_of_ble_eq_true rfl) (Nat.le_of_ble_eq_true rfl) dX1_insertAt_95 rfl (fun s7 h7 => ?_)
  have K_to := ax_kS h7
  have K_o := ax_kN h7 K_o (by omega)
  have K_who := ax_kN h7 K_who (by omega)
  have K_from := ax_kN h7 K_from (by omega)
  have K_stadia := ax_kN h7 K_stadia (by omega)
  refine ax_aload_n (pc' := 99) rfl dX1_insertAt_98 rfl ?_
  refine ax_getf (pc' := 102) fl_X1_21 K_o rfl dX1_insertAt_99 rfl ?_
  refine ax_iload_n (pc' := 103) rfl dX1_insertAt_102 rfl ?_
  refine ax_iload (pc' := 105) rfl dX1_insertAt_103 rfl ?_
  refine ax_callSU (pc' := 108) ls_X1_39 (c_put K_stadia (j := r) (by omega) (by decide)) rfl rfl (Nat.le_of_ble_eq_true rfl) (Nat.le_of_ble_eq_true rfl) dX1_insertAt_105 rfl (fun s8 h8 => ?_)
  have K_stadia := ax_kS h8
  have K_o := ax_kN h8 K_o (by omega)
  have K_who := ax_kN h8 K_who (by omega)
  have K_from := ax_kN h8 K_from (by omega)
  have K_to := ax_kN h8 K_to (by omega)
  refine ax_aload_n (pc' := 109) rfl dX1_insertAt_108 rfl ?_
  refine ax_dup (pc' := 110) rfl dX1_insertAt_109 rfl ?_
  refine ax_getf (pc' := 113) fl_X1_24 K_o rfl dX1_insertAt_110 rfl ?_
  refine ax_iconst (pc' := 114) (v := (nI 1)) kc_1 dX1_insertAt_113 rfl ?_
  refine ax_iadd (pc' := 115) dX1_insertAt_114 rfl ?_
  refine ax_topi (v' := nI (sp_ins rs r (w, a, c, n)).length) (by rw [nI_add, sp_ins_len hr]) ?_
  refine ax_putu (pc' := 118) fp_X1_24 K_o rfl (fun _ => ⟨rfl, rfl⟩) dX1_insertAt_115 rfl (fun s9 h10 => ?_)
  have K_o := ax_kS h10
  have K_who := ax_kN h10 K_who (by omega)
  have K_from := ax_kN h10 K_from (by omega)
  have K_to := ax_kN h10 K_to (by omega)
  have K_stadia := ax_kN h10 K_stadia (by omega)
  refine ax_vret dX1_insertAt_118 rfl (Nat.le_refl 0) (Nat.le_refl 0) ⟨rfl, ⟨_, _, _, _, K_o, K_who, K_from, K_to, K_stadia, fun i hi => ?_⟩, ?_⟩
  · rw [sp_ins_len hr] at hi
    rw [sp_at_ins hr]
    by_cases e : i = r
    · subst e
      simp [upd]
    · by_cases e2 : i < r
      · simp only [upd, e, if_false, sp_open, e2, if_true, show ¬ (r < i ∧ i ≤ rs.length) by omega]
        exact hv i (by omega)
      · simp only [upd, e, if_false, sp_open, e2, show r < i ∧ i ≤ rs.length by omega, if_true, and_self]
        exact hv (i - 1) (by omega)
  · exact ((((((((ax_fr.rf.up h1 (by omega) (by omega)).up h2 (by omega) (by omega)).up h3 (by omega) (by omega)).up h4 (by omega) (by omega)).up h5 (by omega) (by omega)).up h6 (by omega) (by omega)).up h7 (by omega) (by omega)).up h8 (by omega) (by omega)).up h10 (by omega) (by omega)
theorem c_Book_add {σ : ax_S} {p dy w a c n : Nat} {rs : List sp_rep} (hK : bk_At σ.1 p rs dy) (h9 : rs.length < 9) : ax_N mX1_add 3 0 0 [.ref p, .int (nI w), .int (nI a), .int (nI c), .int (nI n)] σ (bk_Po p σ (rs ++ [(w, a, c, n)]) dy) := by
  have s0 := c_insertAt (w := w) (a := a) (c := c) (n := n) hK h9 (Nat.le_refl _)
  obtain ⟨fw, ff, ft, fs, K_o, -⟩ := hK
  refine ax_N.of (ls := [some (.ref p), some (.int (nI w)), some (.int (nI a)), some (.int (nI c)), some (.int (nI n))]) (by decide +kernel) rfl (Nat.le_of_ble_eq_true rfl) ?_
  refine ax_aload_n (pc' := 1) rfl dX1_add_0 rfl ?_
  refine ax_aload_n (pc' := 2) rfl dX1_add_1 rfl ?_
  refine ax_getf (pc' := 5) fl_X1_24 K_o rfl dX1_add_2 rfl ?_
  refine ax_iload_n (pc' := 6) rfl dX1_add_5 rfl ?_
  refine ax_iload_n (pc' := 7) rfl dX1_add_6 rfl ?_
  refine ax_iload_n (pc' := 8) rfl dX1_add_7 rfl ?_
  refine ax_iload (pc' := 10) rfl dX1_add_8 rfl ?_
  refine ax_callVG (pc' := 13) lv_X1_31 (s0) K_o rfl rfl (Nat.le_of_ble_eq_true rfl) (Nat.le_of_ble_eq_true rfl) dX1_add_10 rfl (fun r σ' hr => ?_)
  obtain ⟨rfl, h1, h2⟩ := hr
  rw [sp_ins_end] at h1
  exact ax_vret dX1_add_13 rfl (Nat.le_of_ble_eq_true rfl) (Nat.le_of_ble_eq_true rfl) (⟨rfl, h1, h2⟩)
theorem c_removeAt {σ : ax_S} {p r dy : Nat} {rs : List sp_rep} (hK : bk_At σ.1 p rs dy) (h9 : rs.length ≤ 9) (hr : r < rs.length) : ax_N mX1_removeAt 2 0 0 [.ref p, .int (nI r)] σ (bk_Po p σ (sp_del rs r) dy) := by
  have s0 := c_hasT hK h9 hr
  obtain ⟨fw, ff, ft, fs, K_o, K_who, K_from, K_to, K_stadia, hv⟩ := hK
  refine ax_N.of (ls := [some (.ref p), some (.int (nI r))]) (by decide +kernel) rfl (Nat.le_of_ble_eq_true rfl) ?_
  refine ax_aload_n (pc' := 1) rfl dX1_removeAt_0 rfl ?_
  refine ax_iload_n (pc' := 2) rfl dX1_removeAt_1 rfl ?_
  refine ax_callVR (pc' := 5) lv_X1_42 (s0) K_o rfl rfl (Nat.le_of_ble_eq_true rfl) (Nat.le_of_ble_eq_true rfl) dX1_removeAt_2 rfl ?_
  refine ax_if_ne (pc' := 8) (tgt := 9) dX1_removeAt_5 (by decide) rfl (fun _ => ?_) (fun hz => absurd hz (kz_1))
  refine ax_aload_n (pc' := 10) rfl dX1_removeAt_9 rfl ?_
  refine ax_getf (pc' := 13) fl_X1_9 K_o rfl dX1_removeAt_10 rfl ?_
  refine ax_iload_n (pc' := 14) rfl dX1_removeAt_13 rfl ?_
  refine ax_aload_n (pc' := 15) rfl dX1_removeAt_14 rfl ?_
  refine ax_getf (pc' := 18) fl_X1_24 K_o rfl dX1_removeAt_15 rfl ?_
  refine ax_callSU (pc' := 21) ls_X1_46 (c_closeGap K_who hr h9 (by decide)) rfl rfl (Nat.le_of_ble_eq_true rfl) (Nat.le_of_ble_eq_true rfl) dX1_removeAt_18 rfl (fun s1 h1 => ?_)
  have K_who := ax_kS h1
  have K_o := ax_kN h1 K_o (by omega)
  have K_from := ax_kN h1 K_from (by omega)
  have K_to := ax_kN h1 K_to (by omega)
  have K_stadia := ax_kN h1 K_stadia (by omega)
  refine ax_aload_n (pc' := 22) rfl dX1_removeAt_21 rfl ?_
  refine ax_getf (pc' := 25) fl_X1_15 K_o rfl dX1_removeAt_22 rfl ?_
  refine ax_iload_n (pc' := 26) rfl dX1_removeAt_25 rfl ?_
  refine ax_aload_n (pc' := 27) rfl dX1_removeAt_26 rfl ?_
  refine ax_getf (pc' := 30) fl_X1_24 K_o rfl dX1_removeAt_27 rfl ?_
  refine ax_callSU (pc' := 33) ls_X1_46 (c_closeGap K_from hr h9 (by decide)) rfl rfl (Nat.le_of_ble_eq_true rfl) (Nat.le_of_ble_eq_true rfl) dX1_removeAt_30 rfl (fun s2 h2 => ?_)
  have K_from := ax_kS h2
  have K_o := ax_kN h2 K_o (by omega)
  have K_who := ax_kN h2 K_who (by omega)
  have K_to := ax_kN h2 K_to (by omega)
  have K_stadia := ax_kN h2 K_stadia (by omega)
  refine ax_aload_n (pc' := 34) rfl dX1_removeAt_33 rfl ?_
  refine ax_getf (pc' := 37) fl_X1_18 K_o rfl dX1_removeAt_34 rfl ?_
  refine ax_iload_n (pc' := 38) rfl dX1_removeAt_37 rfl ?_
  refine ax_aload_n (pc' := 39) rfl dX1_removeAt_38 rfl ?_
  refine ax_getf (pc' := 42) fl_X1_24 K_o rfl dX1_removeAt_39 rfl ?_
  refine ax_callSU (pc' := 45) ls_X1_46 (c_closeGap K_to hr h9 (by decide)) rfl rfl (Nat.le_of_ble_eq_true rfl) (Nat.le_of_ble_eq_true rfl) dX1_removeAt_42 rfl (fun s3 h3 => ?_)
  have K_to := ax_kS h3
  have K_o := ax_kN h3 K_o (by omega)
  have K_who := ax_kN h3 K_who (by omega)
  have K_from := ax_kN h3 K_from (by omega)
  have K_stadia := ax_kN h3 K_stadia (by omega)
  refine ax_aload_n (pc' := 46) rfl dX1_removeAt_45 rfl ?_
  refine ax_getf (pc' := 49) fl_X1_21 K_o rfl dX1_removeAt_46 rfl ?_
  refine ax_iload_n (pc' := 50) rfl dX1_removeAt_49 rfl ?_
  refine ax_aload_n (pc' := 51) rfl dX1_removeAt_50 rfl ?_
  refine ax_getf (pc' := 54) fl_X1_24 K_o rfl dX1_removeAt_51 rfl ?_
  refine ax_callSU (pc' := 57) ls_X1_46 (c_closeGap K_stadia hr h9 (by decide)) rfl rfl (Nat.le_of_ble_eq_true rfl) (Nat.le_of_ble_eq_true rfl) dX1_removeAt_54 rfl (fun s4 h4 => ?_)
  have K_stadia := ax_kS h4
  have K_o := ax_kN h4 K_o (by omega)
  have K_who := ax_kN h4 K_who (by omega)
  have K_from := ax_kN h4 K_from (by omega)
  have K_to := ax_kN h4 K_to (by omega)
  refine ax_aload_n (pc' := 58) rfl dX1_removeAt_57 rfl ?_
  refine ax_dup (pc' := 59) rfl dX1_removeAt_58 rfl ?_
  refine ax_getf (pc' := 62) fl_X1_24 K_o rfl dX1_removeAt_59 rfl ?_
  refine ax_iconst (pc' := 63) (v := (nI 1)) kc_1 dX1_removeAt_62 rfl ?_
  refine ax_isub (pc' := 64) dX1_removeAt_63 rfl ?_
  refine ax_topi (v' := nI (sp_del rs r).length) (by rw [pk_sub (by omega), sp_del_len hr]) ?_
  refine ax_putu (pc' := 67) fp_X1_24 K_o rfl (fun _ => ⟨rfl, rfl⟩) dX1_removeAt_64 rfl (fun s9 h10 => ?_)
  have K_o := ax_kS h10
  have K_who := ax_kN h10 K_who (by omega)
  have K_from := ax_kN h10 K_from (by omega)
  have K_to := ax_kN h10 K_to (by omega)
  have K_stadia := ax_kN h10 K_stadia (by omega)
  refine ax_vret dX1_removeAt_67 rfl (Nat.le_refl 0) (Nat.le_refl 0) ⟨rfl, ⟨_, _, _, _, K_o, K_who, K_from, K_to, K_stadia, fun i hi => ?_⟩, ?_⟩
  · rw [sp_del_len hr] at hi
    rw [sp_at_del hr]
    by_cases e2 : i < r
    · simp only [sp_close, e2, if_true, show ¬ (r ≤ i ∧ i + 1 < rs.length) by omega, if_false]
      exact hv i (by omega)
    · simp only [sp_close, e2, show r ≤ i ∧ i + 1 < rs.length by omega, if_true, if_false, and_self]
      exact hv (i + 1) (by omega)
  · exact ((((ax_fr.rf.up h1 (by omega) (by omega)).up h2 (by omega) (by omega)).up h3 (by omega) (by omega)).up h4 (by omega) (by omega)).up h10 (by omega) (by omega)
theorem c_copyFrom {σ : ax_S} {p q dy : Nat} {rs : List sp_rep} (hK : bk_Any σ.1 p) (hO : bk_At σ.1 q rs dy) (h9 : rs.length ≤ 9) (hpq : p + 5 ≤ q ∨ q + 5 ≤ p) : ax_N mX1_copyFrom 2 0 0 [.ref p, .ref q] σ (bk_Po p σ rs dy) := by
  obtain ⟨s, d, gw, gf, gt, gs, K_o, K_who, K_from, K_to, K_stadia⟩ := hK
  obtain ⟨fw, ff, ft, fs, O_o, O_who, O_from, O_to, O_stadia, hv⟩ := hO
  refine ax_N.of (ls := [some (.ref p), some (.ref q)]) (by decide +kernel) rfl (Nat.le_of_ble_eq_true rfl) ?_
  refine ax_aload_n (pc' := 1) rfl dX1_copyFrom_0 rfl ?_
  refine ax_getf (pc' := 4) fl_X1_9 O_o rfl dX1_copyFrom_1 rfl ?_
  refine ax_aload_n (pc' := 5) rfl dX1_copyFrom_4 rfl ?_
  refine ax_getf (pc' := 8) fl_X1_9 K_o rfl dX1_copyFrom_5 rfl ?_
  refine ax_callSU (pc' := 11) ls_X1_49 (c_copyRow O_who K_who (by omega) (by decide)) rfl rfl (Nat.le_of_ble_eq_true rfl) (Nat.le_of_ble_eq_true rfl) dX1_copyFrom_8 rfl (fun s1 h1 => ?_)
  have K_who := ax_kS h1
  have K_o := ax_kN h1 K_o (by omega)
  have K_from := ax_kN h1 K_from (by omega)
  have K_to := ax_kN h1 K_to (by omega)
  have K_stadia := ax_kN h1 K_stadia (by omega)
  have O_o := ax_kN h1 O_o (by omega)
  have O_who := ax_kN h1 O_who (by omega)
  have O_from := ax_kN h1 O_from (by omega)
  have O_to := ax_kN h1 O_to (by omega)
  have O_stadia := ax_kN h1 O_stadia (by omega)
  refine ax_aload_n (pc' := 12) rfl dX1_copyFrom_11 rfl ?_
  refine ax_getf (pc' := 15) fl_X1_15 O_o rfl dX1_copyFrom_12 rfl ?_
  refine ax_aload_n (pc' := 16) rfl dX1_copyFrom_15 rfl ?_
  refine ax_getf (pc' := 19) fl_X1_15 K_o rfl dX1_copyFrom_16 rfl ?_
  refine ax_callSU (pc' := 22) ls_X1_49 (c_copyRow O_from K_from (by omega) (by decide)) rfl rfl (Nat.le_of_ble_eq_true rfl) (Nat.le_of_ble_eq_true rfl) dX1_copyFrom_19 rfl (fun s2 h2 => ?_)
  have K_from := ax_kS h2
  have K_o := ax_kN h2 K_o (by omega)
  have K_who := ax_kN h2 K_who (by omega)
  have K_to := ax_kN h2 K_to (by omega)
  have K_stadia := ax_kN h2 K_stadia (by omega)
  have O_o := ax_kN h2 O_o (by omega)
  have O_who := ax_kN h2 O_who (by omega)
  have O_from := ax_kN h2 O_from (by omega)
  have O_to := ax_kN h2 O_to (by omega)
  have O_stadia := ax_kN h2 O_stadia (by omega)
  refine ax_aload_n (pc' := 23) rfl dX1_copyFrom_22 rfl ?_
  refine ax_getf (pc' := 26) fl_X1_18 O_o rfl dX1_copyFrom_23 rfl ?_
  refine ax_aload_n (pc' := 27) rfl dX1_copyFrom_26 rfl ?_
  refine ax_getf (pc' := 30) fl_X1_18 K_o rfl dX1_copyFrom_27 rfl ?_
  refine ax_callSU (pc' := 33) ls_X1_49 (c_copyRow O_to K_to (by omega) (by decide)) rfl rfl (Nat.le_of_ble_eq_true rfl) (Nat.le_of_ble_eq_true rfl) dX1_copyFrom_30 rfl (fun s3 h3 => ?_)
  have K_to := ax_kS h3
  have K_o := ax_kN h3 K_o (by omega)
  have K_who := ax_kN h3 K_who (by omega)
  have K_from := ax_kN h3 K_from (by omega)
  have K_stadia := ax_kN h3 K_stadia (by omega)
  have O_o := ax_kN h3 O_o (by omega)
  have O_who := ax_kN h3 O_who (by omega)
  have O_from := ax_kN h3 O_from (by omega)
  have O_to := ax_kN h3 O_to (by omega)
  have O_stadia := ax_kN h3 O_stadia (by omega)
  refine ax_aload_n (pc' := 34) rfl dX1_copyFrom_33 rfl ?_
  refine ax_getf (pc' := 37) fl_X1_21 O_o rfl dX1_copyFrom_34 rfl ?_
  refine ax_aload_n (pc' := 38) rfl dX1_copyFrom_37 rfl ?_
  refine ax_getf (pc' := 41) fl_X1_21 K_o rfl dX1_copyFrom_38 rfl ?_
  refine ax_callSU (pc' := 44) ls_X1_49 (c_copyRow O_stadia K_stadia (by omega) (by decide)) rfl rfl (Nat.le_of_ble_eq_true rfl) (Nat.le_of_ble_eq_true rfl) dX1_copyFrom_41 rfl (fun s4 h4 => ?_)
  have K_stadia := ax_kS h4
  have K_o := ax_kN h4 K_o (by omega)
  have K_who := ax_kN h4 K_who (by omega)
  have K_from := ax_kN h4 K_from (by omega)
  have K_to := ax_kN h4 K_to (by omega)
  have O_o := ax_kN h4 O_o (by omega)
  have O_who := ax_kN h4 O_who (by omega)
  have O_from := ax_kN h4 O_from (by omega)
  have O_to := ax_kN h4 O_to (by omega)
  have O_stadia := ax_kN h4 O_stadia (by omega)
  refine ax_aload_n (pc' := 45) rfl dX1_copyFrom_44 rfl ?_
  refine ax_aload_n (pc' := 46) rfl dX1_copyFrom_45 rfl ?_
  refine ax_getf (pc' := 49) fl_X1_24 O_o rfl dX1_copyFrom_46 rfl ?_
  refine ax_putu (pc' := 52) fp_X1_24 K_o rfl (fun _ => ⟨rfl, rfl⟩) dX1_copyFrom_49 rfl (fun s5 h5 => ?_)
  have K_o := ax_kS h5
  have K_who := ax_kN h5 K_who (by omega)
  have K_from := ax_kN h5 K_from (by omega)
  have K_to := ax_kN h5 K_to (by omega)
  have K_stadia := ax_kN h5 K_stadia (by omega)
  have O_o := ax_kN h5 O_o (by omega)
  refine ax_aload_n (pc' := 53) rfl dX1_copyFrom_52 rfl ?_
  refine ax_aload_n (pc' := 54) rfl dX1_copyFrom_53 rfl ?_
  refine ax_getf (pc' := 57) fl_X1_28 O_o rfl dX1_copyFrom_54 rfl ?_
  refine ax_putu (pc' := 60) fp_X1_28 K_o rfl (fun _ => ⟨rfl, rfl⟩) dX1_copyFrom_57 rfl (fun s6 h6 => ?_)
  have K_o := ax_kS h6
  have K_who := ax_kN h6 K_who (by omega)
  have K_from := ax_kN h6 K_from (by omega)
  have K_to := ax_kN h6 K_to (by omega)
  have K_stadia := ax_kN h6 K_stadia (by omega)
  refine ax_vret dX1_copyFrom_60 rfl (Nat.le_refl 0) (Nat.le_refl 0) ⟨rfl, ⟨_, _, _, _, K_o, K_who, K_from, K_to, K_stadia, fun i hi => ?_⟩, ?_⟩
  · have hi9 : i < 9 := by omega
    simp only [sp_copy, hi9, if_true]
    exact hv i hi
  · exact (((((ax_fr.rf.up h1 (by omega) (by omega)).up h2 (by omega) (by omega)).up h3 (by omega) (by omega)).up h4 (by omega) (by omega)).up h5 (by omega) (by omega)).up h6 (by omega) (by omega)
/-- the numbers of reports are those of the ball -/
def bk_ok (b : sp_B) (rs : List sp_rep) : Prop := rs.length ≤ 9 ∧ ∀ i, i < rs.length → (sp_at rs i).1 < b.2.2.1 ∧ (sp_at rs i).2.1 < b.2.1 ∧ (sp_at rs i).2.2.1 < b.2.1 ∧ (sp_at rs i).2.2.2 ≤ 13300
def sp_btw (q : sp_rep) (a c : Nat) : Bool := decide ((q.2.1 = a ∧ q.2.2.1 = c) ∨ (q.2.1 = c ∧ q.2.2.1 = a))
/-- what the latest report of another walker among the first k tells -/
def sp_cop (rs : List sp_rep) (w a c : Nat) : Nat → Option Nat
  | 0 => none
  | k + 1 => if (sp_at rs k).1 ≠ w ∧ sp_btw (sp_at rs k) a c = true then some (sp_at rs k).2.2.2 else sp_cop rs w a c k
theorem c_isBetween {σ : ax_S} {p r dy a c : Nat} {rs : List sp_rep} {b : sp_B} (hK : bk_At σ.1 p rs dy) (hk : bk_ok b rs) (hb : sp_ok b) (hr : r < rs.length) (ha : a < 1000) (hc : c < 1000) : ax_R mX1_isBetween 1 [.ref p, .int (nI r), .int (nI a), .int (nI c)] σ (.int (nI (sp_bl (sp_btw (sp_at rs r) a c)))) := by
  obtain ⟨fw, ff, ft, fs, K_o, K_who, K_from, K_to, K_stadia, hv⟩ := hK
  obtain ⟨h9, hk⟩ := hk
  obtain ⟨-, hk1, hk2, -⟩ := hk r hr
  obtain ⟨-, e1, e2, -⟩ := hv r hr
  have h6 := hb.2.1
  obtain ⟨x, hx⟩ : ∃ x, x = (sp_at rs r).2.1 := ⟨_, rfl⟩
  obtain ⟨y, hy⟩ : ∃ y, y = (sp_at rs r).2.2.1 := ⟨_, rfl⟩
  have ne : ∀ u v : Nat, u < 2000 → v < 2000 → u ≠ v → ¬ nI u = nI v := fun u v h1 h2 h e => h ((nI_eq (by omega) (by omega)).mp e)
  have F1 : ∀ z : Nat, z = sp_bl (sp_btw (sp_at rs r) a c) → ax_R mX1_isBetween 1 [.ref p, .int (nI r), .int (nI a), .int (nI c)] σ (.int (nI z)) := by
    intro z hz
    have hz' : z = if (x = a ∧ y = c) ∨ (x = c ∧ y = a) then 1 else 0 := by
      rw [hz, hx, hy]; simp only [sp_bl, sp_btw, decide_eq_true_eq]
    refine ax_N.of (ls := [some (.ref p), some (.int (nI r)), some (.int (nI a)), some (.int (nI c)), none, none]) (by decide +kernel) rfl (Nat.le_of_ble_eq_true rfl) ?_
    refine ax_aload_n (pc' := 1) rfl dX1_isBetween_0 rfl ?_
    refine ax_getf (pc' := 4) fl_X1_15 K_o rfl dX1_isBetween_1 rfl ?_
    refine ax_iload_n (pc' := 5) rfl dX1_isBetween_4 rfl ?_
    refine ax_callSR (pc' := 8) ls_X1_53 (c_at K_from (by omega) (by decide)) rfl rfl (Nat.le_of_ble_eq_true rfl) (Nat.le_of_ble_eq_true rfl) dX1_isBetween_5 rfl ?_
    refine ax_topi (v' := nI x) (by rw [e1, hx]) ?_
    refine ax_istore (pc' := 10) rfl (Nat.le_of_ble_eq_true rfl) dX1_isBetween_8 rfl ?_
    refine ax_aload_n (pc' := 11) rfl dX1_isBetween_10 rfl ?_
    refine ax_getf (pc' := 14) fl_X1_18 K_o rfl dX1_isBetween_11 rfl ?_
    refine ax_iload_n (pc' := 15) rfl dX1_isBetween_14 rfl ?_
    refine ax_callSR (pc' := 18) ls_X1_53 (c_at K_to (by omega) (by decide)) rfl rfl (Nat.le_of_ble_eq_true rfl) (Nat.le_of_ble_eq_true rfl) dX1_isBetween_15 rfl ?_
    refine ax_topi (v' := nI y) (by rw [e2, hy]) ?_
    refine ax_istore (pc' := 20) rfl (Nat.le_of_ble_eq_true rfl) dX1_isBetween_18 rfl ?_
    refine ax_iload (pc' := 22) rfl dX1_isBetween_20 rfl ?_
    refine ax_iload_n (pc' := 23) rfl dX1_isBetween_22 rfl ?_
    have hx6 : x < 6 := by omega
    have hy6 : y < 6 := by omega
    have T : ∀ zz : List (Option Value), z = 1 → ax_J (mX1_isBetween, 1, 0, 0) 0 0 44 zz [] σ (fun r' σ' => r' = some (.int (nI z)) ∧ σ' = σ) := by
      intro zz h
      refine ax_iconst (pc' := 45) (v := (nI 1)) kc_1 dX1_isBetween_44 rfl ?_
      refine ax_goto (tgt := 49) dX1_isBetween_45 (by decide) ?_
      exact ax_zret dX1_isBetween_49 rfl (by decide) (Nat.le_of_ble_eq_true rfl) (Nat.le_of_ble_eq_true rfl) (⟨by rw [h], rfl⟩)
    have N : ∀ zz : List (Option Value), z = 0 → ax_J (mX1_isBetween, 1, 0, 0) 0 0 48 zz [] σ (fun r' σ' => r' = some (.int (nI z)) ∧ σ' = σ) := by
      intro zz h
      refine ax_iconst (pc' := 49) (v := (nI 0)) kc_0 dX1_isBetween_48 rfl ?_
      exact ax_zret dX1_isBetween_49 rfl (by decide) (Nat.le_of_ble_eq_true rfl) (Nat.le_of_ble_eq_true rfl) (⟨by rw [h], rfl⟩)
    have S2 : (¬ (x = a ∧ y = c)) → ax_J (mX1_isBetween, 1, 0, 0) 0 0 32 [some (.ref p), some (.int (nI r)), some (.int (nI a)), some (.int (nI c)), some (.int (nI x)), some (.int (nI y))] [] σ (fun r' σ' => r' = some (.int (nI z)) ∧ σ' = σ) := by
      intro hn
      refine ax_iload (pc' := 34) rfl dX1_isBetween_32 rfl ?_
      refine ax_iload_n (pc' := 35) rfl dX1_isBetween_34 rfl ?_
      by_cases q1 : x = c
      · refine ax_icmp_ne (pc' := 38) (tgt := 48) dX1_isBetween_35 (by decide) rfl (fun hz => absurd (by rw [q1]) hz) (fun _ => ?_)
        refine ax_iload (pc' := 40) rfl dX1_isBetween_38 rfl ?_
        refine ax_iload_n (pc' := 41) rfl dX1_isBetween_40 rfl ?_
        by_cases q2 : y = a
        · refine ax_icmp_ne (pc' := 44) (tgt := 48) dX1_isBetween_41 (by decide) rfl (fun hz => absurd (by rw [q2]) hz) (fun _ => ?_)
          exact T _ (by rw [hz', if_pos (Or.inr ⟨q1, q2⟩)])
        · refine ax_icmp_ne (pc' := 44) (tgt := 48) dX1_isBetween_41 (by decide) rfl (fun _ => ?_) (fun hz => absurd hz (ne _ _ (by omega) (by omega) q2))
          exact N _ (by rw [hz', if_neg (fun h => h.elim hn (fun h => q2 h.2))])
      · refine ax_icmp_ne (pc' := 38) (tgt := 48) dX1_isBetween_35 (by decide) rfl (fun _ => ?_) (fun hz => absurd hz (ne _ _ (by omega) (by omega) q1))
        exact N _ (by rw [hz', if_neg (fun h => h.elim hn (fun h => q1 h.1))])
    by_cases q1 : x = a
    · refine ax_icmp_ne (pc' := 26) (tgt := 32) dX1_isBetween_23 (by decide) rfl (fun hz => absurd (by rw [q1]) hz) (fun _ => ?_)
      refine ax_iload (pc' := 28) rfl dX1_isBetween_26 rfl ?_
      refine ax_iload_n (pc' := 29) rfl dX1_isBetween_28 rfl ?_
      by_cases q2 : y = c
      · refine ax_icmp_eq (pc' := 32) (tgt := 44) dX1_isBetween_29 (by decide) rfl (fun _ => ?_) (fun hz => absurd (by rw [q2]) hz)
        exact T _ (by rw [hz', if_pos (Or.inl ⟨q1, q2⟩)])
      · refine ax_icmp_eq (pc' := 32) (tgt := 44) dX1_isBetween_29 (by decide) rfl (fun hz => absurd hz (ne _ _ (by omega) (by omega) q2)) (fun _ => ?_)
        exact S2 (fun h => q2 h.2)
    · refine ax_icmp_ne (pc' := 26) (tgt := 32) dX1_isBetween_23 (by decide) rfl (fun _ => ?_) (fun hz => absurd hz (ne _ _ (by omega) (by omega) q1))
      exact S2 (fun h => q1 h.1)
  exact F1 _ rfl
theorem c_latestOfAnother {σ : ax_S} {p dy w a c : Nat} {rs : List sp_rep} {b : sp_B} (hK : bk_At σ.1 p rs dy) (hk : bk_ok b rs) (hb : sp_ok b) (hw : w < 1000) (ha : a < 1000) (hc : c < 1000) : ax_R mX1_latestOfAnother 2 [.ref p, .int (nI w), .int (nI a), .int (nI c)] σ (.int (sp_en (sp_cop rs w a c rs.length))) := by
  have hK0 := hK
  obtain ⟨fw, ff, ft, fs, K_o, K_who, K_from, K_to, K_stadia, hv⟩ := hK
  have hk0 := hk
  obtain ⟨h9, hk⟩ := hk
  refine ax_N.of (ls := [some (.ref p), some (.int (nI w)), some (.int (nI a)), some (.int (nI c)), none]) (by decide +kernel) rfl (Nat.le_of_ble_eq_true rfl) ?_
  refine ax_aload_n (pc' := 1) rfl dX1_latestOfAnother_0 rfl ?_
  refine ax_getf (pc' := 4) fl_X1_24 K_o rfl dX1_latestOfAnother_1 rfl ?_
  refine ax_iconst (pc' := 5) (v := (nI 1)) kc_1 dX1_latestOfAnother_4 rfl ?_
  refine ax_isub (pc' := 6) dX1_latestOfAnother_5 rfl ?_
  have K : ∀ k (v : Int32), k ≤ rs.length → v = nI k - nI 1 → ax_J (mX1_latestOfAnother, 2, 0, 0) 0 0 8 [some (.ref p), some (.int (nI w)), some (.int (nI a)), some (.int (nI c)), some (.int v)] [] σ (fun r' σ' => r' = some (.int (sp_en (sp_cop rs w a c k))) ∧ σ' = σ) := by
    intro k
    induction k with
    | zero =>
      intro v hk hv0
      refine ax_iload (pc' := 10) rfl dX1_latestOfAnother_8 rfl ?_
      refine ax_if_lt (pc' := 13) (tgt := 53) dX1_latestOfAnother_10 (by decide) rfl (fun _ => ?_) (fun hz => absurd (by rw [hv0]; decide) hz)
      refine ax_bipush (pc' := 55) (v := (-4)) kb_m4 dX1_latestOfAnother_53 rfl ?_
      exact ax_iret dX1_latestOfAnother_55 rfl (Nat.le_of_ble_eq_true rfl) (Nat.le_of_ble_eq_true rfl) (⟨rfl, rfl⟩)
    | succ k ih =>
      intro v hk1 hv0
      have hv1 : v = nI k := by rw [hv0]; exact nI_pred k
      subst hv1
      obtain ⟨e0, e1, e2, e3⟩ := hv k (by omega)
      obtain ⟨q0, q1, q2, q3⟩ := hk k (by omega)
      have h4 := hb.2.2.1
      refine ax_iload (pc' := 10) rfl dX1_latestOfAnother_8 rfl ?_
      refine ax_if_lt (pc' := 13) (tgt := 53) dX1_latestOfAnother_10 (by decide) rfl (fun hz => absurd hz (nI_pos (by omega))) (fun _ => ?_)
      refine ax_aload_n (pc' := 14) rfl dX1_latestOfAnother_13 rfl ?_
      refine ax_getf (pc' := 17) fl_X1_9 K_o rfl dX1_latestOfAnother_14 rfl ?_
      refine ax_iload (pc' := 19) rfl dX1_latestOfAnother_17 rfl ?_
      refine ax_callSR (pc' := 22) ls_X1_53 (c_at K_who (by omega) (by decide)) rfl rfl (Nat.le_of_ble_eq_true rfl) (Nat.le_of_ble_eq_true rfl) dX1_latestOfAnother_19 rfl ?_
      refine ax_topi e0 ?_
      refine ax_iload_n (pc' := 23) rfl dX1_latestOfAnother_22 rfl ?_
      have NX : ¬ ((sp_at rs k).1 ≠ w ∧ sp_btw (sp_at rs k) a c = true) → ax_J (mX1_latestOfAnother, 2, 0, 0) 0 0 47 [some (.ref p), some (.int (nI w)), some (.int (nI a)), some (.int (nI c)), some (.int (nI k))] [] σ (fun r' σ' => r' = some (.int (sp_en (sp_cop rs w a c (k + 1)))) ∧ σ' = σ) := by
        intro hn
        refine ax_iinc (pc' := 50) rfl (rfl) rfl (Nat.le_of_ble_eq_true rfl) dX1_latestOfAnother_47 rfl ?_
        refine ax_goto (tgt := 8) dX1_latestOfAnother_50 (by decide) ?_
        have := ih (nI k + Int32.ofInt (-1)) (by omega) (by rw [Int32.sub_eq_add_neg]; rfl)
        rw [show sp_cop rs w a c (k + 1) = sp_cop rs w a c k by simp only [sp_cop, if_neg hn]]
        exact this
      by_cases hw1 : (sp_at rs k).1 = w
      · refine ax_icmp_eq (pc' := 26) (tgt := 47) dX1_latestOfAnother_23 (by decide) rfl (fun _ => ?_) (fun hz => absurd (by rw [hw1]) hz)
        exact NX (fun h => h.1 hw1)
      · refine ax_icmp_eq (pc' := 26) (tgt := 47) dX1_latestOfAnother_23 (by decide) rfl (fun hz => absurd hz (fun h => hw1 ((nI_eq (by omega) (by omega)).mp h))) (fun _ => ?_)
        refine ax_aload_n (pc' := 27) rfl dX1_latestOfAnother_26 rfl ?_
        refine ax_iload (pc' := 29) rfl dX1_latestOfAnother_27 rfl ?_
        refine ax_iload_n (pc' := 30) rfl dX1_latestOfAnother_29 rfl ?_
        refine ax_iload_n (pc' := 31) rfl dX1_latestOfAnother_30 rfl ?_
        refine ax_callVR (pc' := 34) lv_X1_57 (c_isBetween hK0 hk0 hb (r := k) (by omega) ha hc) K_o rfl rfl (Nat.le_of_ble_eq_true rfl) (Nat.le_of_ble_eq_true rfl) dX1_latestOfAnother_31 rfl ?_
        by_cases hbt : sp_btw (sp_at rs k) a c = true
        · refine ax_if_eq (pc' := 37) (tgt := 47) dX1_latestOfAnother_34 (by decide) rfl (fun hz => absurd hz (by rw [hbt]; exact kz_1)) (fun _ => ?_)
          refine ax_aload_n (pc' := 38) rfl dX1_latestOfAnother_37 rfl ?_
          refine ax_getf (pc' := 41) fl_X1_21 K_o rfl dX1_latestOfAnother_38 rfl ?_
          refine ax_iload (pc' := 43) rfl dX1_latestOfAnother_41 rfl ?_
          refine ax_callSR (pc' := 46) ls_X1_53 (c_at K_stadia (by omega) (by decide)) rfl rfl (Nat.le_of_ble_eq_true rfl) (Nat.le_of_ble_eq_true rfl) dX1_latestOfAnother_43 rfl ?_
          exact ax_iret dX1_latestOfAnother_46 rfl (Nat.le_of_ble_eq_true rfl) (Nat.le_of_ble_eq_true rfl) (⟨by rw [e3]; simp only [sp_cop, if_pos (show (sp_at rs k).1 ≠ w ∧ sp_btw (sp_at rs k) a c = true from ⟨hw1, hbt⟩), sp_en], rfl⟩)
        · refine ax_if_eq (pc' := 37) (tgt := 47) dX1_latestOfAnother_34 (by decide) rfl (fun _ => ?_) (fun hz => absurd (by rw [show sp_btw (sp_at rs k) a c = false by simpa using hbt]; exact kz_0) hz)
          exact NX (fun h => hbt h.2)
  refine ax_istore (pc' := 8) rfl (Nat.le_of_ble_eq_true rfl) dX1_latestOfAnother_6 rfl ?_
  exact K rs.length _ (Nat.le_refl _) rfl
