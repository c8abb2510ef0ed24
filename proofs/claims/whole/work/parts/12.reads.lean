/-! ===== GirthReports: what it reads ===== -/
def xq_At (h : ax_H) (pb pq : Nat) (k : Int32) (b : sp_B) : Prop := h 0 = some (.inr (7, [.ref 1, .ref 3, .ref 5, .ref 10, .ref 15, .ref 20, .ref 25, .ref 32, .ref 37, .ref pb, .ref pq, .int k])) ∧ bl_At h pb b ∧ sp_ok b ∧ 40 ≤ pb
theorem xq_At.fr {σ τ : ax_S} {pb pq p n : Nat} {k : Int32} {b : sp_B} (h : xq_At σ.1 pb pq k b) (hF : ax_fr p n σ τ) (h0 : 1 ≤ p) (h1 : p + n ≤ 40) : xq_At τ.1 pb pq k b :=
  ⟨hF.at h.1 (by omega), h.2.1.fr hF (by have := h.2.2.2; omega), h.2.2.1, h.2.2.2⟩
def sp_ls (b : sp_B) (q : sp_rep) : Option Nat := sp_go q.2.2.2 (sp_U b q.1) (sp_deg b q.2.1 q.2.2.1 + 2)
def sp_ms (b : sp_B) (q : sp_rep) : Option Nat := sp_go q.2.2.2 (sp_U b q.1) (sp_deg b q.2.1 q.2.2.1 - 2)
theorem sp_degm {d : Nat} (hd : d ≤ 1000) : (0 < d - 2 ∧ nI d - nI 2 = nI (d - 2)) ∨ (d - 2 = 0 ∧ nI d - nI 2 ≤ 0) := by
  by_cases h : d ≤ 2
  · right
    refine ⟨by omega, ?_⟩
    rw [Int32.le_iff_toInt_le, pk_sub_toInt (by omega) (by omega), Int32.toInt_zero]
    omega
  · left
    exact ⟨by omega, pk_sub (by omega)⟩
section XR
variable {σ : ax_S} {pb pq dy : Nat} {k : Int32} {b : sp_B} {rs : List sp_rep}
theorem c_shadowsApartBy {r : Nat} (hX : xq_At σ.1 pb pq k b) (hK : bk_At σ.1 5 rs dy) (hk : bk_ok b rs) (hr : r < rs.length) : ax_R mX7_shadowsApartBy 3 [.ref 0, .int (nI r)] σ (.int (nI (sp_deg b (sp_at rs r).2.1 (sp_at rs r).2.2.1))) := by
  obtain ⟨X_o, ⟨fr, hB, hrd⟩, hb, hp⟩ := hX
  obtain ⟨fl, fn, fb, fk, fp, fu, B_o, B_lies, B_leans, B_bends, B_roads, B_kinds, B_paces, B_units, r1, r2, r3⟩ := id hB
  obtain ⟨gw, gf, gt, gs, K_o, K_who, K_from, K_to, K_stadia, hg⟩ := hK
  have h9 := hk.1
  obtain ⟨e0, e1, e2, e3⟩ := hg r hr
  obtain ⟨q0, q1, q2, q3⟩ := hk.2 r hr
  refine ax_N.of (ls := [some (.ref 0), some (.int (nI r))]) (by decide +kernel) rfl (Nat.le_of_ble_eq_true rfl) ?_
  refine ax_aload_n (pc' := 1) rfl dX7_shadowsApartBy_0 rfl ?_
  refine ax_getf (pc' := 4) fl_X7_63 X_o rfl dX7_shadowsApartBy_1 rfl ?_
  refine ax_aload_n (pc' := 5) rfl dX7_shadowsApartBy_4 rfl ?_
  refine ax_getf (pc' := 8) fl_X7_26 X_o rfl dX7_shadowsApartBy_5 rfl ?_
  refine ax_getf (pc' := 11) fl_X7_160 K_o rfl dX7_shadowsApartBy_8 rfl ?_
  refine ax_iload_n (pc' := 12) rfl dX7_shadowsApartBy_11 rfl ?_
  refine ax_callSR (pc' := 15) ls_X7_120 (c_at K_from (by omega) (by decide)) rfl rfl (Nat.le_of_ble_eq_true rfl) (Nat.le_of_ble_eq_true rfl) dX7_shadowsApartBy_12 rfl ?_
  refine ax_topi e1 ?_
  refine ax_aload_n (pc' := 16) rfl dX7_shadowsApartBy_15 rfl ?_
  refine ax_getf (pc' := 19) fl_X7_26 X_o rfl dX7_shadowsApartBy_16 rfl ?_
  refine ax_getf (pc' := 22) fl_X7_163 K_o rfl dX7_shadowsApartBy_19 rfl ?_
  refine ax_iload_n (pc' := 23) rfl dX7_shadowsApartBy_22 rfl ?_
  refine ax_callSR (pc' := 26) ls_X7_120 (c_at K_to (by omega) (by decide)) rfl rfl (Nat.le_of_ble_eq_true rfl) (Nat.le_of_ble_eq_true rfl) dX7_shadowsApartBy_23 rfl ?_
  refine ax_topi e2 ?_
  refine ax_callVR (pc' := 29) lv_X7_139 (c_shadowsApart hB hb q1 q2) B_o rfl rfl (Nat.le_of_ble_eq_true rfl) (Nat.le_of_ble_eq_true rfl) dX7_shadowsApartBy_26 rfl ?_
  exact ax_iret dX7_shadowsApartBy_29 rfl (Nat.le_of_ble_eq_true rfl) (Nat.le_of_ble_eq_true rfl) (⟨rfl, rfl⟩)
theorem c_girthBy {r : Nat} (hX : xq_At σ.1 pb pq k b) (hK : bk_At σ.1 5 rs dy) (hk : bk_ok b rs) (hr : r < rs.length) : ax_R mX7_girthBy 4 [.ref 0, .int (nI r)] σ (.int (sp_en (sp_gb b (sp_at rs r)))) := by
  have s0 := c_shadowsApartBy hX hK hk hr
  obtain ⟨X_o, ⟨fr, hB, hrd⟩, hb, hp⟩ := hX
  obtain ⟨fl, fn, fb, fk, fp, fu, B_o, B_lies, B_leans, B_bends, B_roads, B_kinds, B_paces, B_units, r1, r2, r3⟩ := id hB
  obtain ⟨gw, gf, gt, gs, K_o, K_who, K_from, K_to, K_stadia, hg⟩ := hK
  have h9 := hk.1
  obtain ⟨e0, e1, e2, e3⟩ := hg r hr
  obtain ⟨q0, q1, q2, q3⟩ := hk.2 r hr
  have hd := sp_deg_le hb (sp_at rs r).2.1 (sp_at rs r).2.2.1
  refine ax_N.of (ls := [some (.ref 0), some (.int (nI r))]) (by decide +kernel) rfl (Nat.le_of_ble_eq_true rfl) ?_
  refine ax_aload_n (pc' := 1) rfl dX7_girthBy_0 rfl ?_
  refine ax_getf (pc' := 4) fl_X7_63 X_o rfl dX7_girthBy_1 rfl ?_
  refine ax_aload_n (pc' := 5) rfl dX7_girthBy_4 rfl ?_
  refine ax_getf (pc' := 8) fl_X7_26 X_o rfl dX7_girthBy_5 rfl ?_
  refine ax_getf (pc' := 11) fl_X7_157 K_o rfl dX7_girthBy_8 rfl ?_
  refine ax_iload_n (pc' := 12) rfl dX7_girthBy_11 rfl ?_
  refine ax_callSR (pc' := 15) ls_X7_120 (c_at K_who (by omega) (by decide)) rfl rfl (Nat.le_of_ble_eq_true rfl) (Nat.le_of_ble_eq_true rfl) dX7_girthBy_12 rfl ?_
  refine ax_topi e0 ?_
  refine ax_aload_n (pc' := 16) rfl dX7_girthBy_15 rfl ?_
  refine ax_getf (pc' := 19) fl_X7_26 X_o rfl dX7_girthBy_16 rfl ?_
  refine ax_getf (pc' := 22) fl_X7_166 K_o rfl dX7_girthBy_19 rfl ?_
  refine ax_iload_n (pc' := 23) rfl dX7_girthBy_22 rfl ?_
  refine ax_callSR (pc' := 26) ls_X7_120 (c_at K_stadia (by omega) (by decide)) rfl rfl (Nat.le_of_ble_eq_true rfl) (Nat.le_of_ble_eq_true rfl) dX7_girthBy_23 rfl ?_
  refine ax_topi e3 ?_
  refine ax_aload_n (pc' := 27) rfl dX7_girthBy_26 rfl ?_
  refine ax_iload_n (pc' := 28) rfl dX7_girthBy_27 rfl ?_
  refine ax_callVR (pc' := 31) lv_X7_286 (s0) X_o rfl rfl (Nat.le_of_ble_eq_true rfl) (Nat.le_of_ble_eq_true rfl) dX7_girthBy_28 rfl ?_
  refine ax_callVR (pc' := 34) lv_X7_289 (c_girthOf hB hb q0 q3 (by omega) (sp_degv (by omega))) B_o rfl rfl (Nat.le_of_ble_eq_true rfl) (Nat.le_of_ble_eq_true rfl) dX7_girthBy_31 rfl ?_
  exact ax_iret dX7_girthBy_34 rfl (Nat.le_of_ble_eq_true rfl) (Nat.le_of_ble_eq_true rfl) (⟨rfl, rfl⟩)
theorem c_leastBy {r : Nat} (hX : xq_At σ.1 pb pq k b) (hK : bk_At σ.1 5 rs dy) (hk : bk_ok b rs) (hr : r < rs.length) : ax_R mX7_leastBy 4 [.ref 0, .int (nI r)] σ (.int (sp_en (sp_ls b (sp_at rs r)))) := by
  have s0 := c_shadowsApartBy hX hK hk hr
  obtain ⟨X_o, ⟨fr, hB, hrd⟩, hb, hp⟩ := hX
  obtain ⟨fl, fn, fb, fk, fp, fu, B_o, B_lies, B_leans, B_bends, B_roads, B_kinds, B_paces, B_units, r1, r2, r3⟩ := id hB
  obtain ⟨gw, gf, gt, gs, K_o, K_who, K_from, K_to, K_stadia, hg⟩ := hK
  have h9 := hk.1
  obtain ⟨e0, e1, e2, e3⟩ := hg r hr
  obtain ⟨q0, q1, q2, q3⟩ := hk.2 r hr
  have hd := sp_deg_le hb (sp_at rs r).2.1 (sp_at rs r).2.2.1
  refine ax_N.of (ls := [some (.ref 0), some (.int (nI r))]) (by decide +kernel) rfl (Nat.le_of_ble_eq_true rfl) ?_
  refine ax_aload_n (pc' := 1) rfl dX7_leastBy_0 rfl ?_
  refine ax_getf (pc' := 4) fl_X7_63 X_o rfl dX7_leastBy_1 rfl ?_
  refine ax_aload_n (pc' := 5) rfl dX7_leastBy_4 rfl ?_
  refine ax_getf (pc' := 8) fl_X7_26 X_o rfl dX7_leastBy_5 rfl ?_
  refine ax_getf (pc' := 11) fl_X7_157 K_o rfl dX7_leastBy_8 rfl ?_
  refine ax_iload_n (pc' := 12) rfl dX7_leastBy_11 rfl ?_
  refine ax_callSR (pc' := 15) ls_X7_120 (c_at K_who (by omega) (by decide)) rfl rfl (Nat.le_of_ble_eq_true rfl) (Nat.le_of_ble_eq_true rfl) dX7_leastBy_12 rfl ?_
  refine ax_topi e0 ?_
  refine ax_aload_n (pc' := 16) rfl dX7_leastBy_15 rfl ?_
  refine ax_getf (pc' := 19) fl_X7_26 X_o rfl dX7_leastBy_16 rfl ?_
  refine ax_getf (pc' := 22) fl_X7_166 K_o rfl dX7_leastBy_19 rfl ?_
  refine ax_iload_n (pc' := 23) rfl dX7_leastBy_22 rfl ?_
  refine ax_callSR (pc' := 26) ls_X7_120 (c_at K_stadia (by omega) (by decide)) rfl rfl (Nat.le_of_ble_eq_true rfl) (Nat.le_of_ble_eq_true rfl) dX7_leastBy_23 rfl ?_
  refine ax_topi e3 ?_
  refine ax_aload_n (pc' := 27) rfl dX7_leastBy_26 rfl ?_
  refine ax_iload_n (pc' := 28) rfl dX7_leastBy_27 rfl ?_
  refine ax_callVR (pc' := 31) lv_X7_286 (s0) X_o rfl rfl (Nat.le_of_ble_eq_true rfl) (Nat.le_of_ble_eq_true rfl) dX7_leastBy_28 rfl ?_
  refine ax_iconst (pc' := 32) (v := (nI 2)) kc_2 dX7_leastBy_31 rfl ?_
  refine ax_iadd (pc' := 33) dX7_leastBy_32 rfl ?_
  refine ax_callVR (pc' := 36) lv_X7_289 (c_girthOf (d := sp_deg b (sp_at rs r).2.1 (sp_at rs r).2.2.1 + 2) hB hb q0 q3 (by omega) (Or.inl ⟨by omega, nI_add _ 2⟩)) B_o rfl rfl (Nat.le_of_ble_eq_true rfl) (Nat.le_of_ble_eq_true rfl) dX7_leastBy_33 rfl ?_
  exact ax_iret dX7_leastBy_36 rfl (Nat.le_of_ble_eq_true rfl) (Nat.le_of_ble_eq_true rfl) (⟨rfl, rfl⟩)
theorem c_mostBy {r : Nat} (hX : xq_At σ.1 pb pq k b) (hK : bk_At σ.1 5 rs dy) (hk : bk_ok b rs) (hr : r < rs.length) : ax_R mX7_mostBy 4 [.ref 0, .int (nI r)] σ (.int (sp_en (sp_ms b (sp_at rs r)))) := by
  have s0 := c_shadowsApartBy hX hK hk hr
  obtain ⟨X_o, ⟨fr, hB, hrd⟩, hb, hp⟩ := hX
  obtain ⟨fl, fn, fb, fk, fp, fu, B_o, B_lies, B_leans, B_bends, B_roads, B_kinds, B_paces, B_units, r1, r2, r3⟩ := id hB
  obtain ⟨gw, gf, gt, gs, K_o, K_who, K_from, K_to, K_stadia, hg⟩ := hK
  have h9 := hk.1
  obtain ⟨e0, e1, e2, e3⟩ := hg r hr
  obtain ⟨q0, q1, q2, q3⟩ := hk.2 r hr
  have hd := sp_deg_le hb (sp_at rs r).2.1 (sp_at rs r).2.2.1
  refine ax_N.of (ls := [some (.ref 0), some (.int (nI r))]) (by decide +kernel) rfl (Nat.le_of_ble_eq_true rfl) ?_
  refine ax_aload_n (pc' := 1) rfl dX7_mostBy_0 rfl ?_
  refine ax_getf (pc' := 4) fl_X7_63 X_o rfl dX7_mostBy_1 rfl ?_
  refine ax_aload_n (pc' := 5) rfl dX7_mostBy_4 rfl ?_
  refine ax_getf (pc' := 8) fl_X7_26 X_o rfl dX7_mostBy_5 rfl ?_
  refine ax_getf (pc' := 11) fl_X7_157 K_o rfl dX7_mostBy_8 rfl ?_
  refine ax_iload_n (pc' := 12) rfl dX7_mostBy_11 rfl ?_
  refine ax_callSR (pc' := 15) ls_X7_120 (c_at K_who (by omega) (by decide)) rfl rfl (Nat.le_of_ble_eq_true rfl) (Nat.le_of_ble_eq_true rfl) dX7_mostBy_12 rfl ?_
  refine ax_topi e0 ?_
  refine ax_aload_n (pc' := 16) rfl dX7_mostBy_15 rfl ?_
  refine ax_getf (pc' := 19) fl_X7_26 X_o rfl dX7_mostBy_16 rfl ?_
  refine ax_getf (pc' := 22) fl_X7_166 K_o rfl dX7_mostBy_19 rfl ?_
  refine ax_iload_n (pc' := 23) rfl dX7_mostBy_22 rfl ?_
  refine ax_callSR (pc' := 26) ls_X7_120 (c_at K_stadia (by omega) (by decide)) rfl rfl (Nat.le_of_ble_eq_true rfl) (Nat.le_of_ble_eq_true rfl) dX7_mostBy_23 rfl ?_
  refine ax_topi e3 ?_
  refine ax_aload_n (pc' := 27) rfl dX7_mostBy_26 rfl ?_
  refine ax_iload_n (pc' := 28) rfl dX7_mostBy_27 rfl ?_
  refine ax_callVR (pc' := 31) lv_X7_286 (s0) X_o rfl rfl (Nat.le_of_ble_eq_true rfl) (Nat.le_of_ble_eq_true rfl) dX7_mostBy_28 rfl ?_
  refine ax_iconst (pc' := 32) (v := (nI 2)) kc_2 dX7_mostBy_31 rfl ?_
  refine ax_isub (pc' := 33) dX7_mostBy_32 rfl ?_
  refine ax_callVR (pc' := 36) lv_X7_289 (c_girthOf (d := sp_deg b (sp_at rs r).2.1 (sp_at rs r).2.2.1 - 2) hB hb q0 q3 (by omega) (sp_degm (by omega))) B_o rfl rfl (Nat.le_of_ble_eq_true rfl) (Nat.le_of_ble_eq_true rfl) dX7_mostBy_33 rfl ?_
  exact ax_iret dX7_mostBy_36 rfl (Nat.le_of_ble_eq_true rfl) (Nat.le_of_ble_eq_true rfl) (⟨rfl, rfl⟩)
end XR
theorem sp_tells_le {kd u m : Nat} (h0 : 0 < u) (hm : m ≤ 1320) : sp_tells kd u m ≤ 13300 := by
  have h1 : 10 * m / u ≤ 10 * m := Nat.div_le_self _ _
  unfold sp_tells
  split
  · omega
  · split <;> omega
theorem sp_cop_le {b : sp_B} {rs : List sp_rep} (hk : bk_ok b rs) {w a c n k : Nat} (hkl : k ≤ rs.length) (h : sp_cop rs w a c k = some n) : n ≤ 13300 := by
  induction k with
  | zero => cases h
  | succ k ih =>
    simp only [sp_cop] at h
    split at h
    · cases h
      exact (hk.2 k (by omega)).2.2.2
    · exact ih (by omega) h
/-- what a walker of that kind and unit would tell -/
def sp_told (b : sp_B) (rs : List sp_rep) (w a c kd u : Nat) : Nat := if kd = 3 then (sp_cop rs w a c rs.length).getD (sp_tells kd u (sp_road b a c)) else sp_tells kd u (sp_road b a c)
theorem sp_told_le {b : sp_B} {rs : List sp_rep} (hb : sp_ok b) (hk : bk_ok b rs) {w a c kd u : Nat} (h0 : 0 < u) : sp_told b rs w a c kd u ≤ 13300 := by
  have h1 := sp_tells_le (kd := kd) h0 (sp_road_le hb a c)
  unfold sp_told
  split
  · cases h : sp_cop rs w a c rs.length with
    | none => exact h1
    | some n => exact sp_cop_le hk (Nat.le_refl _) h
  · exact h1
section XR2
variable {σ : ax_S} {pb pq dy : Nat} {k : Int32} {b : sp_B} {rs : List sp_rep}
theorem c_wouldTell {p w a c kd u : Nat} (hX : xq_At σ.1 pb pq k b) (hK : bk_At σ.1 p rs dy) (hk : bk_ok b rs) (hw : w < b.2.2.1) (ha : a < b.2.1) (hc : c < b.2.1) (hkd : kd ≤ 3) (h0 : 0 < u) (hu : u ≤ 9) : ax_R mX7_wouldTell 3 [.ref 0, .ref p, .int (nI w), .int (nI a), .int (nI c), .int (nI kd), .int (nI u)] σ (.int (nI (sp_told b rs w a c kd u))) := by
  obtain ⟨X_o, hB, hb, hp⟩ := hX
  have B_o : σ.1 pb = _ := hB.choose_spec.1.choose_spec.choose_spec.choose_spec.choose_spec.choose_spec.choose_spec.1
  have K_o : σ.1 p = _ := hK.choose_spec.choose_spec.choose_spec.choose_spec.1
  have h6 := hb.2.1
  have h4 := hb.2.2.1
  have hro := sp_road_le hb a c
  refine ax_N.of (ls := [some (.ref 0), some (.ref p), some (.int (nI w)), some (.int (nI a)), some (.int (nI c)), some (.int (nI kd)), some (.int (nI u)), none]) (by decide +kernel) rfl (Nat.le_of_ble_eq_true rfl) ?_
  have K2 : ∀ z : Option Value, sp_told b rs w a c kd u = sp_tells kd u (sp_road b a c) → ax_J (mX7_wouldTell, 3, 0, 0) 0 0 26 [some (.ref 0), some (.ref p), some (.int (nI w)), some (.int (nI a)), some (.int (nI c)), some (.int (nI kd)), some (.int (nI u)), z] [] σ (fun r σ' => r = some (.int (nI (sp_told b rs w a c kd u))) ∧ σ' = σ) := by
    intro z ht
    rw [ht]
    refine ax_iload (pc' := 28) rfl dX7_wouldTell_26 rfl ?_
    refine ax_iload (pc' := 30) rfl dX7_wouldTell_28 rfl ?_
    refine ax_aload_n (pc' := 31) rfl dX7_wouldTell_30 rfl ?_
    refine ax_getf (pc' := 34) fl_X7_63 X_o rfl dX7_wouldTell_31 rfl ?_
    refine ax_iload_n (pc' := 35) rfl dX7_wouldTell_34 rfl ?_
    refine ax_iload (pc' := 37) rfl dX7_wouldTell_35 rfl ?_
    refine ax_callVR (pc' := 40) lv_X7_136 (c_byRoad hB hb ha hc) B_o rfl rfl (Nat.le_of_ble_eq_true rfl) (Nat.le_of_ble_eq_true rfl) dX7_wouldTell_37 rfl ?_
    refine ax_callSR (pc' := 43) ls_X7_302 (c_toldOfMiles hkd h0 hu (by omega)) rfl rfl (Nat.le_of_ble_eq_true rfl) (Nat.le_of_ble_eq_true rfl) dX7_wouldTell_40 rfl ?_
    exact ax_iret dX7_wouldTell_43 rfl (Nat.le_of_ble_eq_true rfl) (Nat.le_of_ble_eq_true rfl) (⟨rfl, rfl⟩)
  refine ax_iload (pc' := 2) rfl dX7_wouldTell_0 rfl ?_
  refine ax_iconst (pc' := 3) (v := (nI 3)) kc_3 dX7_wouldTell_2 rfl ?_
  by_cases h3 : kd = 3
  · subst h3
    refine ax_icmp_ne (pc' := 6) (tgt := 26) dX7_wouldTell_3 (by decide) rfl (fun hz => absurd (rfl) hz) (fun _ => ?_)
    refine ax_aload_n (pc' := 7) rfl dX7_wouldTell_6 rfl ?_
    refine ax_iload_n (pc' := 8) rfl dX7_wouldTell_7 rfl ?_
    refine ax_iload_n (pc' := 9) rfl dX7_wouldTell_8 rfl ?_
    refine ax_iload (pc' := 11) rfl dX7_wouldTell_9 rfl ?_
    refine ax_callVR (pc' := 14) lv_X7_305 (c_latestOfAnother hK hk hb (by omega) (by omega) (by omega)) K_o rfl rfl (Nat.le_of_ble_eq_true rfl) (Nat.le_of_ble_eq_true rfl) dX7_wouldTell_11 rfl ?_
    refine ax_istore (pc' := 16) rfl (Nat.le_of_ble_eq_true rfl) dX7_wouldTell_14 rfl ?_
    refine ax_iload (pc' := 18) rfl dX7_wouldTell_16 rfl ?_
    refine ax_bipush (pc' := 20) (v := (-4)) kb_m4 dX7_wouldTell_18 rfl ?_
    cases hcp : sp_cop rs w a c rs.length with
    | none =>
      refine ax_icmp_eq (pc' := 23) (tgt := 26) dX7_wouldTell_20 (by decide) rfl (fun _ => ?_) (fun hz => absurd (rfl) hz)
      exact K2 _ (by simp [sp_told, hcp])
    | some n =>
      have := sp_cop_le hk (Nat.le_refl _) hcp
      refine ax_icmp_eq (pc' := 23) (tgt := 26) dX7_wouldTell_20 (by decide) rfl (fun hz => absurd hz (nI_ne4 (by omega))) (fun _ => ?_)
      refine ax_iload (pc' := 25) rfl dX7_wouldTell_23 rfl ?_
      exact ax_iret dX7_wouldTell_25 rfl (Nat.le_of_ble_eq_true rfl) (Nat.le_of_ble_eq_true rfl) (⟨by simp [sp_told, hcp, sp_en], rfl⟩)
  · refine ax_icmp_ne (pc' := 6) (tgt := 26) dX7_wouldTell_3 (by decide) rfl (fun _ => ?_) (fun hz => absurd hz (fun h => h3 ((nI_eq (by omega) (by omega)).mp h)))
    exact K2 _ (by simp [sp_told, h3])
/-- the girth's bounds are so far apart -/
def sp_wid (b : sp_B) (rs : List sp_rep) (w a c : Nat) : Option Nat :=
  if sp_deg b a c - 2 = 0 then none else some (36 * sp_told b rs w a c (sp_K b w) (sp_U b w) * sp_U b w / (sp_deg b a c - 2) - 36 * sp_told b rs w a c (sp_K b w) (sp_U b w) * sp_U b w / (sp_deg b a c + 2))
theorem c_widthOfNext {w a c : Nat} (hX : xq_At σ.1 pb pq k b) (hK : bk_At σ.1 5 rs dy) (hk : bk_ok b rs) (hw : w < b.2.2.1) (ha : a < b.2.1) (hc : c < b.2.1) : ax_R mX7_widthOfNext 4 [.ref 0, .int (nI w), .int (nI a), .int (nI c)] σ (.int (sp_en (sp_wid b rs w a c))) := by
  have hX0 := hX
  obtain ⟨X_o, ⟨fr, hB, hrd⟩, hb, hp⟩ := hX
  obtain ⟨fl, fn, fb, fk, fp, fu, B_o, B_lies, B_leans, B_bends, B_roads, B_kinds, B_paces, B_units, r1, r2, r3⟩ := id hB
  have K_o : σ.1 5 = _ := hK.choose_spec.choose_spec.choose_spec.choose_spec.1
  have h4 := hb.2.2.1
  obtain ⟨k1, k2, k3, k4, k5⟩ := hb.2.2.2.2.2 w
  obtain ⟨e1, e2, e3⟩ := r3 w hw
  have ht := sp_told_le hb hk (w := w) (a := a) (c := c) (kd := sp_K b w) (u := sp_U b w) (by omega)
  have hd := sp_deg_le hb a c
  have hq := sp_go_lt (d := 0) ht k5
  refine ax_N.of (ls := [some (.ref 0), some (.int (nI w)), some (.int (nI a)), some (.int (nI c)), none, none, none]) (by decide +kernel) rfl (Nat.le_of_ble_eq_true rfl) ?_
  refine ax_aload_n (pc' := 1) rfl dX7_widthOfNext_0 rfl ?_
  refine ax_aload_n (pc' := 2) rfl dX7_widthOfNext_1 rfl ?_
  refine ax_getf (pc' := 5) fl_X7_26 X_o rfl dX7_widthOfNext_2 rfl ?_
  refine ax_iload_n (pc' := 6) rfl dX7_widthOfNext_5 rfl ?_
  refine ax_iload_n (pc' := 7) rfl dX7_widthOfNext_6 rfl ?_
  refine ax_iload_n (pc' := 8) rfl dX7_widthOfNext_7 rfl ?_
  refine ax_aload_n (pc' := 9) rfl dX7_widthOfNext_8 rfl ?_
  refine ax_getf (pc' := 12) fl_X7_63 X_o rfl dX7_widthOfNext_9 rfl ?_
  refine ax_getf (pc' := 15) fl_X7_145 B_o rfl dX7_widthOfNext_12 rfl ?_
  refine ax_iload_n (pc' := 16) rfl dX7_widthOfNext_15 rfl ?_
  refine ax_callSR (pc' := 19) ls_X7_120 (c_at B_kinds (by omega) (by decide)) rfl rfl (Nat.le_of_ble_eq_true rfl) (Nat.le_of_ble_eq_true rfl) dX7_widthOfNext_16 rfl ?_
  refine ax_topi e1 ?_
  refine ax_aload_n (pc' := 20) rfl dX7_widthOfNext_19 rfl ?_
  refine ax_getf (pc' := 23) fl_X7_63 X_o rfl dX7_widthOfNext_20 rfl ?_
  refine ax_getf (pc' := 26) fl_X7_151 B_o rfl dX7_widthOfNext_23 rfl ?_
  refine ax_iload_n (pc' := 27) rfl dX7_widthOfNext_26 rfl ?_
  refine ax_callSR (pc' := 30) ls_X7_120 (c_at B_units (by omega) (by decide)) rfl rfl (Nat.le_of_ble_eq_true rfl) (Nat.le_of_ble_eq_true rfl) dX7_widthOfNext_27 rfl ?_
  refine ax_topi e3 ?_
  refine ax_callVR (pc' := 33) lv_X7_292 (c_wouldTell hX0 hK hk hw ha hc k1 (by omega) k5) X_o rfl rfl (Nat.le_of_ble_eq_true rfl) (Nat.le_of_ble_eq_true rfl) dX7_widthOfNext_30 rfl ?_
  refine ax_istore (pc' := 35) rfl (Nat.le_of_ble_eq_true rfl) dX7_widthOfNext_33 rfl ?_
  refine ax_aload_n (pc' := 36) rfl dX7_widthOfNext_35 rfl ?_
  refine ax_getf (pc' := 39) fl_X7_63 X_o rfl dX7_widthOfNext_36 rfl ?_
  refine ax_iload_n (pc' := 40) rfl dX7_widthOfNext_39 rfl ?_
  refine ax_iload_n (pc' := 41) rfl dX7_widthOfNext_40 rfl ?_
  refine ax_callVR (pc' := 44) lv_X7_139 (c_shadowsApart hB hb ha hc) B_o rfl rfl (Nat.le_of_ble_eq_true rfl) (Nat.le_of_ble_eq_true rfl) dX7_widthOfNext_41 rfl ?_
  refine ax_istore (pc' := 46) rfl (Nat.le_of_ble_eq_true rfl) dX7_widthOfNext_44 rfl ?_
  refine ax_aload_n (pc' := 47) rfl dX7_widthOfNext_46 rfl ?_
  refine ax_getf (pc' := 50) fl_X7_63 X_o rfl dX7_widthOfNext_47 rfl ?_
  refine ax_iload_n (pc' := 51) rfl dX7_widthOfNext_50 rfl ?_
  refine ax_iload (pc' := 53) rfl dX7_widthOfNext_51 rfl ?_
  refine ax_iload (pc' := 55) rfl dX7_widthOfNext_53 rfl ?_
  refine ax_iconst (pc' := 56) (v := (nI 2)) kc_2 dX7_widthOfNext_55 rfl ?_
  refine ax_isub (pc' := 57) dX7_widthOfNext_56 rfl ?_
  refine ax_callVR (pc' := 60) lv_X7_289 (c_girthOf (d := sp_deg b a c - 2) hB hb hw ht (by omega) (sp_degm (by omega))) B_o rfl rfl (Nat.le_of_ble_eq_true rfl) (Nat.le_of_ble_eq_true rfl) dX7_widthOfNext_57 rfl ?_
  refine ax_istore (pc' := 62) rfl (Nat.le_of_ble_eq_true rfl) dX7_widthOfNext_60 rfl ?_
  refine ax_iload (pc' := 64) rfl dX7_widthOfNext_62 rfl ?_
  refine ax_bipush (pc' := 66) (v := (-4)) kb_m4 dX7_widthOfNext_64 rfl ?_
  by_cases h0 : sp_deg b a c - 2 = 0
  · simp only [sp_go, h0, if_true]
    refine ax_icmp_ne (pc' := 69) (tgt := 74) dX7_widthOfNext_66 (by decide) rfl (fun hz => absurd (rfl) hz) (fun _ => ?_)
    refine ax_bipush (pc' := 71) (v := (-4)) kb_m4 dX7_widthOfNext_69 rfl ?_
    refine ax_goto (tgt := 91) dX7_widthOfNext_71 (by decide) ?_
    exact ax_iret dX7_widthOfNext_91 rfl (Nat.le_of_ble_eq_true rfl) (Nat.le_of_ble_eq_true rfl) (⟨by simp only [sp_wid, h0, if_true, sp_en], rfl⟩)
  · simp only [sp_go, h0, if_false]
    refine ax_icmp_ne (pc' := 69) (tgt := 74) dX7_widthOfNext_66 (by decide) rfl (fun _ => ?_) (fun hz => absurd hz (nI_ne4 (Nat.lt_of_le_of_lt (Nat.div_le_self _ _) (by omega))))
    refine ax_iload (pc' := 76) rfl dX7_widthOfNext_74 rfl ?_
    refine ax_aload_n (pc' := 77) rfl dX7_widthOfNext_76 rfl ?_
    refine ax_getf (pc' := 80) fl_X7_63 X_o rfl dX7_widthOfNext_77 rfl ?_
    refine ax_iload_n (pc' := 81) rfl dX7_widthOfNext_80 rfl ?_
    refine ax_iload (pc' := 83) rfl dX7_widthOfNext_81 rfl ?_
    refine ax_iload (pc' := 85) rfl dX7_widthOfNext_83 rfl ?_
    refine ax_iconst (pc' := 86) (v := (nI 2)) kc_2 dX7_widthOfNext_85 rfl ?_
    refine ax_iadd (pc' := 87) dX7_widthOfNext_86 rfl ?_
    refine ax_topi (nI_add _ 2) ?_
    refine ax_callVR (pc' := 90) lv_X7_289 (c_girthOf (d := sp_deg b a c + 2) hB hb hw ht (by omega) (Or.inl ⟨by omega, rfl⟩)) B_o rfl rfl (Nat.le_of_ble_eq_true rfl) (Nat.le_of_ble_eq_true rfl) dX7_widthOfNext_87 rfl ?_
    refine ax_isub (pc' := 91) dX7_widthOfNext_90 rfl ?_
    have hle : 36 * sp_told b rs w a c (sp_K b w) (sp_U b w) * sp_U b w / (sp_deg b a c + 2) ≤ 36 * sp_told b rs w a c (sp_K b w) (sp_U b w) * sp_U b w / (sp_deg b a c - 2) := Nat.div_le_div_left (by omega) (by omega)
    exact ax_iret dX7_widthOfNext_91 rfl (Nat.le_of_ble_eq_true rfl) (Nat.le_of_ble_eq_true rfl) (⟨by simp only [sp_wid, h0, if_false, sp_en, sp_go, show ¬ sp_deg b a c + 2 = 0 by omega]; rw [pk_sub hle], rfl⟩)
/-- what a report would tell without some of its errors (1 its road, 4 its walker) -/
def sp_sw (b : sp_B) (q : sp_rep) (er : Nat) : Nat :=
  if (if sp_has er 2 then 0 else sp_K b q.1) = 3 then q.2.2.2 else sp_tells (if sp_has er 2 then 0 else sp_K b q.1) (sp_U b q.1) (if sp_has er 0 then sp_str b q.2.1 q.2.2.1 else sp_road b q.2.1 q.2.2.1)
def sp_gw (b : sp_B) (q : sp_rep) (er : Nat) : Option Nat := sp_go (sp_sw b q er) (sp_U b q.1) (if sp_has er 1 then sp_far (sp_L b q.2.1) (sp_L b q.2.2.1) else sp_deg b q.2.1 q.2.2.1)
theorem sp_and_ok : ∀ s, s < 8 → ((sp_has s 0 = true → ¬ (nI s &&& nI 1) = 0) ∧ (sp_has s 0 = false → (nI s &&& nI 1) = 0)) ∧ ((sp_has s 1 = true → ¬ (nI s &&& nI 2) = 0) ∧ (sp_has s 1 = false → (nI s &&& nI 2) = 0)) ∧ ((sp_has s 2 = true → ¬ (nI s &&& nI 4) = 0) ∧ (sp_has s 2 = false → (nI s &&& nI 4) = 0)) := by decide +kernel
theorem sp_sw_le {q : sp_rep} {er : Nat} (hb : sp_ok b) (hq : q.2.2.2 ≤ 13300) : sp_sw b q er ≤ 13300 := by
  have h1 := sp_str_le hb q.2.1 q.2.2.1
  have h2 := sp_road_le hb q.2.1 q.2.2.1
  have h3 := (hb.2.2.2.2.2 q.1).2.2.2.1
  unfold sp_sw
  by_cases h : (if sp_has er 2 then 0 else sp_K b q.1) = 3
  · rw [if_pos h]; exact hq
  · rw [if_neg h]
    refine sp_tells_le (by omega) ?_
    split <;> omega
theorem c_stadiaWithout {r er : Nat} (hX : xq_At σ.1 pb pq k b) (hK : bk_At σ.1 5 rs dy) (hk : bk_ok b rs) (hr : r < rs.length) (her : er < 8) : ax_R mX7_stadiaWithout 3 [.ref 0, .int (nI r), .int (nI er)] σ (.int (nI (sp_sw b (sp_at rs r) er))) := by
  obtain ⟨X_o, hBt, hb, hp⟩ := hX
  obtain ⟨fr, hB, hrd⟩ := id hBt
  obtain ⟨fl, fn, fb, fk, fp, fu, B_o, B_lies, B_leans, B_bends, B_roads, B_kinds, B_paces, B_units, r1, r2, r3⟩ := id hB
  obtain ⟨gw, gf, gt, gs, K_o, K_who, K_from, K_to, K_stadia, hg⟩ := hK
  have h9 := hk.1
  have h4 := hb.2.2.1
  obtain ⟨e0, e1, e2, e3⟩ := hg r hr
  obtain ⟨q0, q1, q2, q3⟩ := hk.2 r hr
  obtain ⟨⟨w, a, c, n⟩, hq⟩ : ∃ q, sp_at rs r = q := ⟨_, rfl⟩
  rw [hq] at e0 e1 e2 e3 q0 q1 q2 q3 ⊢
  obtain ⟨k1, k2, k3, k4, k5⟩ := hb.2.2.2.2.2 w
  obtain ⟨u1, u2, u3⟩ := r3 w q0
  obtain ⟨⟨b1, b2⟩, -, b3, b4⟩ := sp_and_ok er her
  refine ax_N.of (ls := [some (.ref 0), some (.int (nI r)), some (.int (nI er)), none, none, none, none, none, none, none]) (by decide +kernel) rfl (Nat.le_of_ble_eq_true rfl) ?_
  refine ax_aload_n (pc' := 1) rfl dX7_stadiaWithout_0 rfl ?_
  refine ax_getf (pc' := 4) fl_X7_26 X_o rfl dX7_stadiaWithout_1 rfl ?_
  refine ax_getf (pc' := 7) fl_X7_157 K_o rfl dX7_stadiaWithout_4 rfl ?_
  refine ax_iload_n (pc' := 8) rfl dX7_stadiaWithout_7 rfl ?_
  refine ax_callSR (pc' := 11) ls_X7_120 (c_at K_who (by omega) (by decide)) rfl rfl (Nat.le_of_ble_eq_true rfl) (Nat.le_of_ble_eq_true rfl) dX7_stadiaWithout_8 rfl ?_
  refine ax_topi e0 ?_
  refine ax_istore_n (pc' := 12) rfl (Nat.le_of_ble_eq_true rfl) dX7_stadiaWithout_11 rfl ?_
  refine ax_aload_n (pc' := 13) rfl dX7_stadiaWithout_12 rfl ?_
  refine ax_getf (pc' := 16) fl_X7_26 X_o rfl dX7_stadiaWithout_13 rfl ?_
  refine ax_getf (pc' := 19) fl_X7_160 K_o rfl dX7_stadiaWithout_16 rfl ?_
  refine ax_iload_n (pc' := 20) rfl dX7_stadiaWithout_19 rfl ?_
  refine ax_callSR (pc' := 23) ls_X7_120 (c_at K_from (by omega) (by decide)) rfl rfl (Nat.le_of_ble_eq_true rfl) (Nat.le_of_ble_eq_true rfl) dX7_stadiaWithout_20 rfl ?_
  refine ax_topi e1 ?_
  refine ax_istore (pc' := 25) rfl (Nat.le_of_ble_eq_true rfl) dX7_stadiaWithout_23 rfl ?_
  refine ax_aload_n (pc' := 26) rfl dX7_stadiaWithout_25 rfl ?_
  refine ax_getf (pc' := 29) fl_X7_26 X_o rfl dX7_stadiaWithout_26 rfl ?_
  refine ax_getf (pc' := 32) fl_X7_163 K_o rfl dX7_stadiaWithout_29 rfl ?_
  refine ax_iload_n (pc' := 33) rfl dX7_stadiaWithout_32 rfl ?_
  refine ax_callSR (pc' := 36) ls_X7_120 (c_at K_to (by omega) (by decide)) rfl rfl (Nat.le_of_ble_eq_true rfl) (Nat.le_of_ble_eq_true rfl) dX7_stadiaWithout_33 rfl ?_
  refine ax_topi e2 ?_
  refine ax_istore (pc' := 38) rfl (Nat.le_of_ble_eq_true rfl) dX7_stadiaWithout_36 rfl ?_
  refine ax_iload_n (pc' := 39) rfl dX7_stadiaWithout_38 rfl ?_
  refine ax_iconst (pc' := 40) (v := (nI 4)) kc_4 dX7_stadiaWithout_39 rfl ?_
  refine ax_iand (pc' := 41) dX7_stadiaWithout_40 rfl ?_
  have KF : ∀ (kd : Nat) (z6 : Int32) (z8 z9 : Option Value), kd ≤ 3 → kd = (if sp_has er 2 then 0 else sp_K b w) → ax_J (mX7_stadiaWithout, 3, 0, 0) 0 0 71 [some (.ref 0), some (.int (nI r)), some (.int (nI er)), some (.int (nI w)), some (.int (nI a)), some (.int (nI c)), some (.int z6), none, z8, z9] [.int (nI kd)] σ (fun r' σ' => r' = some (.int (nI (sp_sw b (w, a, c, n) er))) ∧ σ' = σ) := by
    intro kd z6 z8 z9 hkd3 hkd
    have hsw : sp_sw b (w, a, c, n) er = if kd = 3 then n else sp_tells kd (sp_U b w) (if sp_has er 0 then sp_str b a c else sp_road b a c) := by rw [hkd]; rfl
    refine ax_istore (pc' := 73) rfl (Nat.le_of_ble_eq_true rfl) dX7_stadiaWithout_71 rfl ?_
    refine ax_iload (pc' := 75) rfl dX7_stadiaWithout_73 rfl ?_
    refine ax_iconst (pc' := 76) (v := (nI 3)) kc_3 dX7_stadiaWithout_75 rfl ?_
    by_cases h3 : kd = 3
    · refine ax_icmp_ne (pc' := 79) (tgt := 91) dX7_stadiaWithout_76 (by decide) rfl (fun hz => absurd (by rw [h3]) hz) (fun _ => ?_)
      refine ax_aload_n (pc' := 80) rfl dX7_stadiaWithout_79 rfl ?_
      refine ax_getf (pc' := 83) fl_X7_26 X_o rfl dX7_stadiaWithout_80 rfl ?_
      refine ax_getf (pc' := 86) fl_X7_166 K_o rfl dX7_stadiaWithout_83 rfl ?_
      refine ax_iload_n (pc' := 87) rfl dX7_stadiaWithout_86 rfl ?_
      refine ax_callSR (pc' := 90) ls_X7_120 (c_at K_stadia (by omega) (by decide)) rfl rfl (Nat.le_of_ble_eq_true rfl) (Nat.le_of_ble_eq_true rfl) dX7_stadiaWithout_87 rfl ?_
      exact ax_iret dX7_stadiaWithout_90 rfl (Nat.le_of_ble_eq_true rfl) (Nat.le_of_ble_eq_true rfl) (⟨by rw [e3, hsw, if_pos h3], rfl⟩)
    · rw [if_neg h3] at hsw
      refine ax_icmp_ne (pc' := 79) (tgt := 91) dX7_stadiaWithout_76 (by decide) rfl (fun _ => ?_) (fun hz => absurd hz (fun h => h3 ((nI_eq (by omega) (by omega)).mp h)))
      refine ax_iload_n (pc' := 92) rfl dX7_stadiaWithout_91 rfl ?_
      refine ax_iconst (pc' := 93) (v := (nI 1)) kc_1 dX7_stadiaWithout_92 rfl ?_
      refine ax_iand (pc' := 94) dX7_stadiaWithout_93 rfl ?_
      have KM : ∀ (m : Nat) (z8 : Int32) (z9 : Option Value), m ≤ 2000 → m = (if sp_has er 0 then sp_str b a c else sp_road b a c) → ax_J (mX7_stadiaWithout, 3, 0, 0) 0 0 134 [some (.ref 0), some (.int (nI r)), some (.int (nI er)), some (.int (nI w)), some (.int (nI a)), some (.int (nI c)), some (.int z6), some (.int (nI kd)), some (.int z8), z9] [.int (nI m)] σ (fun r' σ' => r' = some (.int (nI (sp_sw b (w, a, c, n) er))) ∧ σ' = σ) := by
        intro m z8 z9 hm2 hm
        refine ax_istore (pc' := 136) rfl (Nat.le_of_ble_eq_true rfl) dX7_stadiaWithout_134 rfl ?_
        refine ax_iload (pc' := 138) rfl dX7_stadiaWithout_136 rfl ?_
        refine ax_aload_n (pc' := 139) rfl dX7_stadiaWithout_138 rfl ?_
        refine ax_getf (pc' := 142) fl_X7_63 X_o rfl dX7_stadiaWithout_139 rfl ?_
        refine ax_getf (pc' := 145) fl_X7_151 B_o rfl dX7_stadiaWithout_142 rfl ?_
        refine ax_iload_n (pc' := 146) rfl dX7_stadiaWithout_145 rfl ?_
        refine ax_callSR (pc' := 149) ls_X7_120 (c_at B_units (by omega) (by decide)) rfl rfl (Nat.le_of_ble_eq_true rfl) (Nat.le_of_ble_eq_true rfl) dX7_stadiaWithout_146 rfl ?_
        refine ax_topi u3 ?_
        refine ax_iload (pc' := 151) rfl dX7_stadiaWithout_149 rfl ?_
        refine ax_callSR (pc' := 154) ls_X7_302 (c_toldOfMiles hkd3 (by omega) k5 hm2) rfl rfl (Nat.le_of_ble_eq_true rfl) (Nat.le_of_ble_eq_true rfl) dX7_stadiaWithout_151 rfl ?_
        exact ax_iret dX7_stadiaWithout_154 rfl (Nat.le_of_ble_eq_true rfl) (Nat.le_of_ble_eq_true rfl) (⟨by rw [hsw, hm], rfl⟩)
      have hs1 := sp_str_le hb a c
      have hs2 := sp_road_le hb a c
      by_cases hr0 : sp_has er 0 = true
      · refine ax_if_eq (pc' := 97) (tgt := 101) dX7_stadiaWithout_94 (by decide) rfl (fun hz => absurd hz (b1 hr0)) (fun _ => ?_)
        refine ax_iconst (pc' := 98) (v := (nI 1)) kc_1 dX7_stadiaWithout_97 rfl ?_
        refine ax_goto (tgt := 102) dX7_stadiaWithout_98 (by decide) ?_
        refine ax_istore (pc' := 104) rfl (Nat.le_of_ble_eq_true rfl) dX7_stadiaWithout_102 rfl ?_
        refine ax_iload (pc' := 106) rfl dX7_stadiaWithout_104 rfl ?_
        refine ax_if_eq (pc' := 109) (tgt := 123) dX7_stadiaWithout_106 (by decide) rfl (fun hz => absurd hz (kz_1)) (fun _ => ?_)
        refine ax_aload_n (pc' := 110) rfl dX7_stadiaWithout_109 rfl ?_
        refine ax_getf (pc' := 113) fl_X7_63 X_o rfl dX7_stadiaWithout_110 rfl ?_
        refine ax_iload (pc' := 115) rfl dX7_stadiaWithout_113 rfl ?_
        refine ax_iload (pc' := 117) rfl dX7_stadiaWithout_115 rfl ?_
        refine ax_callVR (pc' := 120) lv_X7_132 (c_straight hB hb q1 q2) B_o rfl rfl (Nat.le_of_ble_eq_true rfl) (Nat.le_of_ble_eq_true rfl) dX7_stadiaWithout_117 rfl ?_
        refine ax_goto (tgt := 134) dX7_stadiaWithout_120 (by decide) ?_
        exact KM _ _ _ (Nat.le_trans hs1 (by decide)) (by rw [if_pos hr0])
      · refine ax_if_eq (pc' := 97) (tgt := 101) dX7_stadiaWithout_94 (by decide) rfl (fun _ => ?_) (fun hz => absurd (b2 (by simpa using hr0)) hz)
        refine ax_iconst (pc' := 102) (v := (nI 0)) kc_0 dX7_stadiaWithout_101 rfl ?_
        refine ax_istore (pc' := 104) rfl (Nat.le_of_ble_eq_true rfl) dX7_stadiaWithout_102 rfl ?_
        refine ax_iload (pc' := 106) rfl dX7_stadiaWithout_104 rfl ?_
        refine ax_if_eq (pc' := 109) (tgt := 123) dX7_stadiaWithout_106 (by decide) rfl (fun _ => ?_) (fun hz => absurd (kz_0) hz)
        refine ax_aload_n (pc' := 124) rfl dX7_stadiaWithout_123 rfl ?_
        refine ax_getf (pc' := 127) fl_X7_63 X_o rfl dX7_stadiaWithout_124 rfl ?_
        refine ax_iload (pc' := 129) rfl dX7_stadiaWithout_127 rfl ?_
        refine ax_iload (pc' := 131) rfl dX7_stadiaWithout_129 rfl ?_
        refine ax_callVR (pc' := 134) lv_X7_136 (c_byRoad hBt hb q1 q2) B_o rfl rfl (Nat.le_of_ble_eq_true rfl) (Nat.le_of_ble_eq_true rfl) dX7_stadiaWithout_131 rfl ?_
        exact KM _ _ _ (Nat.le_trans hs2 (by decide)) (by rw [if_neg hr0])
  by_cases hw0 : sp_has er 2 = true
  · refine ax_if_eq (pc' := 44) (tgt := 48) dX7_stadiaWithout_41 (by decide) rfl (fun hz => absurd hz (b3 hw0)) (fun _ => ?_)
    refine ax_iconst (pc' := 45) (v := (nI 1)) kc_1 dX7_stadiaWithout_44 rfl ?_
    refine ax_goto (tgt := 49) dX7_stadiaWithout_45 (by decide) ?_
    refine ax_istore (pc' := 51) rfl (Nat.le_of_ble_eq_true rfl) dX7_stadiaWithout_49 rfl ?_
    refine ax_iload (pc' := 53) rfl dX7_stadiaWithout_51 rfl ?_
    refine ax_if_eq (pc' := 56) (tgt := 60) dX7_stadiaWithout_53 (by decide) rfl (fun hz => absurd hz (kz_1)) (fun _ => ?_)
    refine ax_iconst (pc' := 57) (v := (nI 0)) kc_0 dX7_stadiaWithout_56 rfl ?_
    refine ax_goto (tgt := 71) dX7_stadiaWithout_57 (by decide) ?_
    exact KF 0 _ _ _ (by omega) (by rw [if_pos hw0])
  · refine ax_if_eq (pc' := 44) (tgt := 48) dX7_stadiaWithout_41 (by decide) rfl (fun _ => ?_) (fun hz => absurd (b4 (by simpa using hw0)) hz)
    refine ax_iconst (pc' := 49) (v := (nI 0)) kc_0 dX7_stadiaWithout_48 rfl ?_
    refine ax_istore (pc' := 51) rfl (Nat.le_of_ble_eq_true rfl) dX7_stadiaWithout_49 rfl ?_
    refine ax_iload (pc' := 53) rfl dX7_stadiaWithout_51 rfl ?_
    refine ax_if_eq (pc' := 56) (tgt := 60) dX7_stadiaWithout_53 (by decide) rfl (fun _ => ?_) (fun hz => absurd (kz_0) hz)
    refine ax_aload_n (pc' := 61) rfl dX7_stadiaWithout_60 rfl ?_
    refine ax_getf (pc' := 64) fl_X7_63 X_o rfl dX7_stadiaWithout_61 rfl ?_
    refine ax_getf (pc' := 67) fl_X7_145 B_o rfl dX7_stadiaWithout_64 rfl ?_
    refine ax_iload_n (pc' := 68) rfl dX7_stadiaWithout_67 rfl ?_
    refine ax_callSR (pc' := 71) ls_X7_120 (c_at B_kinds (by omega) (by decide)) rfl rfl (Nat.le_of_ble_eq_true rfl) (Nat.le_of_ble_eq_true rfl) dX7_stadiaWithout_68 rfl ?_
    refine ax_topi u1 ?_
    exact KF _ _ _ _ k1 (by rw [if_neg hw0])
theorem c_girthWithout {r er : Nat} (hX : xq_At σ.1 pb pq k b) (hK : bk_At σ.1 5 rs dy) (hk : bk_ok b rs) (hr : r < rs.length) (her : er < 8) : ax_R mX7_girthWithout 4 [.ref 0, .int (nI r), .int (nI er)] σ (.int (sp_en (sp_gw b (sp_at rs r) er))) := by
  have s0 := c_stadiaWithout hX hK hk hr her
  obtain ⟨X_o, hBt, hb, hp⟩ := hX
  obtain ⟨fr, hB, hrd⟩ := id hBt
  obtain ⟨fl, fn, fb, fk, fp, fu, B_o, B_lies, B_leans, B_bends, B_roads, B_kinds, B_paces, B_units, r1, r2, r3⟩ := id hB
  obtain ⟨gw, gf, gt, gs, K_o, K_who, K_from, K_to, K_stadia, hg⟩ := hK
  have h9 := hk.1
  obtain ⟨e0, e1, e2, e3⟩ := hg r hr
  obtain ⟨q0, q1, q2, q3⟩ := hk.2 r hr
  have hsw := sp_sw_le (er := er) hb q3
  have hd := sp_deg_le hb (sp_at rs r).2.1 (sp_at rs r).2.2.1
  have hf := sp_far_le (hb.2.2.2.1 (sp_at rs r).2.1).1 (hb.2.2.2.1 (sp_at rs r).2.2.1).1
  obtain ⟨-, ⟨b1, b2⟩, -⟩ := sp_and_ok er her
  refine ax_N.of (ls := [some (.ref 0), some (.int (nI r)), some (.int (nI er)), none, none, none, none, none]) (by decide +kernel) rfl (Nat.le_of_ble_eq_true rfl) ?_
  refine ax_aload_n (pc' := 1) rfl dX7_girthWithout_0 rfl ?_
  refine ax_getf (pc' := 4) fl_X7_26 X_o rfl dX7_girthWithout_1 rfl ?_
  refine ax_getf (pc' := 7) fl_X7_157 K_o rfl dX7_girthWithout_4 rfl ?_
  refine ax_iload_n (pc' := 8) rfl dX7_girthWithout_7 rfl ?_
  refine ax_callSR (pc' := 11) ls_X7_120 (c_at K_who (by omega) (by decide)) rfl rfl (Nat.le_of_ble_eq_true rfl) (Nat.le_of_ble_eq_true rfl) dX7_girthWithout_8 rfl ?_
  refine ax_topi e0 ?_
  refine ax_istore_n (pc' := 12) rfl (Nat.le_of_ble_eq_true rfl) dX7_girthWithout_11 rfl ?_
  refine ax_aload_n (pc' := 13) rfl dX7_girthWithout_12 rfl ?_
  refine ax_getf (pc' := 16) fl_X7_26 X_o rfl dX7_girthWithout_13 rfl ?_
  refine ax_getf (pc' := 19) fl_X7_160 K_o rfl dX7_girthWithout_16 rfl ?_
  refine ax_iload_n (pc' := 20) rfl dX7_girthWithout_19 rfl ?_
  refine ax_callSR (pc' := 23) ls_X7_120 (c_at K_from (by omega) (by decide)) rfl rfl (Nat.le_of_ble_eq_true rfl) (Nat.le_of_ble_eq_true rfl) dX7_girthWithout_20 rfl ?_
  refine ax_topi e1 ?_
  refine ax_istore (pc' := 25) rfl (Nat.le_of_ble_eq_true rfl) dX7_girthWithout_23 rfl ?_
  refine ax_aload_n (pc' := 26) rfl dX7_girthWithout_25 rfl ?_
  refine ax_getf (pc' := 29) fl_X7_26 X_o rfl dX7_girthWithout_26 rfl ?_
  refine ax_getf (pc' := 32) fl_X7_163 K_o rfl dX7_girthWithout_29 rfl ?_
  refine ax_iload_n (pc' := 33) rfl dX7_girthWithout_32 rfl ?_
  refine ax_callSR (pc' := 36) ls_X7_120 (c_at K_to (by omega) (by decide)) rfl rfl (Nat.le_of_ble_eq_true rfl) (Nat.le_of_ble_eq_true rfl) dX7_girthWithout_33 rfl ?_
  refine ax_topi e2 ?_
  refine ax_istore (pc' := 38) rfl (Nat.le_of_ble_eq_true rfl) dX7_girthWithout_36 rfl ?_
  refine ax_iload_n (pc' := 39) rfl dX7_girthWithout_38 rfl ?_
  refine ax_iconst (pc' := 40) (v := (nI 2)) kc_2 dX7_girthWithout_39 rfl ?_
  refine ax_iand (pc' := 41) dX7_girthWithout_40 rfl ?_
  have KD : ∀ (d : Nat) (z6 : Int32), d ≤ 1000 → d = (if sp_has er 1 then sp_far (sp_L b (sp_at rs r).2.1) (sp_L b (sp_at rs r).2.2.1) else sp_deg b (sp_at rs r).2.1 (sp_at rs r).2.2.1) → ax_J (mX7_girthWithout, 4, 0, 0) 0 0 81 [some (.ref 0), some (.int (nI r)), some (.int (nI er)), some (.int (nI (sp_at rs r).1)), some (.int (nI (sp_at rs r).2.1)), some (.int (nI (sp_at rs r).2.2.1)), some (.int z6), none] [.int (nI d)] σ (fun r' σ' => r' = some (.int (sp_en (sp_gw b (sp_at rs r) er))) ∧ σ' = σ) := by
    intro d z6 hd1 hd2
    refine ax_istore (pc' := 83) rfl (Nat.le_of_ble_eq_true rfl) dX7_girthWithout_81 rfl ?_
    refine ax_aload_n (pc' := 84) rfl dX7_girthWithout_83 rfl ?_
    refine ax_getf (pc' := 87) fl_X7_63 X_o rfl dX7_girthWithout_84 rfl ?_
    refine ax_iload_n (pc' := 88) rfl dX7_girthWithout_87 rfl ?_
    refine ax_aload_n (pc' := 89) rfl dX7_girthWithout_88 rfl ?_
    refine ax_iload_n (pc' := 90) rfl dX7_girthWithout_89 rfl ?_
    refine ax_iload_n (pc' := 91) rfl dX7_girthWithout_90 rfl ?_
    refine ax_callVR (pc' := 94) lv_X7_299 (s0) X_o rfl rfl (Nat.le_of_ble_eq_true rfl) (Nat.le_of_ble_eq_true rfl) dX7_girthWithout_91 rfl ?_
    refine ax_iload (pc' := 96) rfl dX7_girthWithout_94 rfl ?_
    refine ax_callVR (pc' := 99) lv_X7_289 (c_girthOf hB hb q0 hsw hd1 (sp_degv hd1)) B_o rfl rfl (Nat.le_of_ble_eq_true rfl) (Nat.le_of_ble_eq_true rfl) dX7_girthWithout_96 rfl ?_
    exact ax_iret dX7_girthWithout_99 rfl (Nat.le_of_ble_eq_true rfl) (Nat.le_of_ble_eq_true rfl) (⟨by rw [hd2]; rfl, rfl⟩)
  by_cases hw0 : sp_has er 1 = true
  · refine ax_if_eq (pc' := 44) (tgt := 48) dX7_girthWithout_41 (by decide) rfl (fun hz => absurd hz (b1 hw0)) (fun _ => ?_)
    refine ax_iconst (pc' := 45) (v := (nI 1)) kc_1 dX7_girthWithout_44 rfl ?_
    refine ax_goto (tgt := 49) dX7_girthWithout_45 (by decide) ?_
    refine ax_istore (pc' := 51) rfl (Nat.le_of_ble_eq_true rfl) dX7_girthWithout_49 rfl ?_
    refine ax_iload (pc' := 53) rfl dX7_girthWithout_51 rfl ?_
    refine ax_if_eq (pc' := 56) (tgt := 70) dX7_girthWithout_53 (by decide) rfl (fun hz => absurd hz (kz_1)) (fun _ => ?_)
    refine ax_aload_n (pc' := 57) rfl dX7_girthWithout_56 rfl ?_
    refine ax_getf (pc' := 60) fl_X7_63 X_o rfl dX7_girthWithout_57 rfl ?_
    refine ax_iload (pc' := 62) rfl dX7_girthWithout_60 rfl ?_
    refine ax_iload (pc' := 64) rfl dX7_girthWithout_62 rfl ?_
    refine ax_callVR (pc' := 67) lv_X7_296 (c_liesApart hB hb q1 q2) B_o rfl rfl (Nat.le_of_ble_eq_true rfl) (Nat.le_of_ble_eq_true rfl) dX7_girthWithout_64 rfl ?_
    refine ax_goto (tgt := 81) dX7_girthWithout_67 (by decide) ?_
    exact KD _ _ (by omega) (by rw [if_pos hw0])
  · refine ax_if_eq (pc' := 44) (tgt := 48) dX7_girthWithout_41 (by decide) rfl (fun _ => ?_) (fun hz => absurd (b2 (by simpa using hw0)) hz)
    refine ax_iconst (pc' := 49) (v := (nI 0)) kc_0 dX7_girthWithout_48 rfl ?_
    refine ax_istore (pc' := 51) rfl (Nat.le_of_ble_eq_true rfl) dX7_girthWithout_49 rfl ?_
    refine ax_iload (pc' := 53) rfl dX7_girthWithout_51 rfl ?_
    refine ax_if_eq (pc' := 56) (tgt := 70) dX7_girthWithout_53 (by decide) rfl (fun _ => ?_) (fun hz => absurd (kz_0) hz)
    refine ax_aload_n (pc' := 71) rfl dX7_girthWithout_70 rfl ?_
    refine ax_getf (pc' := 74) fl_X7_63 X_o rfl dX7_girthWithout_71 rfl ?_
    refine ax_iload (pc' := 76) rfl dX7_girthWithout_74 rfl ?_
    refine ax_iload (pc' := 78) rfl dX7_girthWithout_76 rfl ?_
    refine ax_callVR (pc' := 81) lv_X7_139 (c_shadowsApart hB hb q1 q2) B_o rfl rfl (Nat.le_of_ble_eq_true rfl) (Nat.le_of_ble_eq_true rfl) dX7_girthWithout_78 rfl ?_
    exact KD _ _ (by omega) (by rw [if_neg hw0])
theorem c_meanBy {p : Nat} (hX : xq_At σ.1 pb pq k b) (hG : gi_Any σ.1) (hK : bk_At σ.1 p rs dy) (hk : bk_ok b rs) (hp : p + 5 ≤ 37) : ax_N mX7_meanBy 4 0 0 [.ref 0, .ref p] σ (fun r τ => r = some (.int (sp_en (sp_mean (sp_sel b rs 511 0) rs.length))) ∧ gi_At τ.1 b rs ∧ ax_fr 37 3 σ τ) := by
  have hX0 := hX
  obtain ⟨X_o, ⟨fr, hB, hrd⟩, hb, hp4⟩ := hX
  have G_o : σ.1 37 = _ := hG.choose_spec.choose_spec.choose_spec.1
  refine ax_N.of (ls := [some (.ref 0), some (.ref p)]) (by decide +kernel) rfl (Nat.le_of_ble_eq_true rfl) ?_
  refine ax_aload_n (pc' := 1) rfl dX7_meanBy_0 rfl ?_
  refine ax_getf (pc' := 4) fl_X7_56 X_o rfl dX7_meanBy_1 rfl ?_
  refine ax_aload_n (pc' := 5) rfl dX7_meanBy_4 rfl ?_
  refine ax_getf (pc' := 8) fl_X7_63 X_o rfl dX7_meanBy_5 rfl ?_
  refine ax_aload_n (pc' := 9) rfl dX7_meanBy_8 rfl ?_
  refine ax_callVG (pc' := 12) lv_X7_219 (c_reckon hG hB hb hK hk hp4 hp) G_o rfl rfl (Nat.le_of_ble_eq_true rfl) (Nat.le_of_ble_eq_true rfl) dX7_meanBy_9 rfl (fun r σ' hr => ?_)
  obtain ⟨rfl, hG2, hF⟩ := hr
  have X_o := hF.at X_o (by omega)
  have G_o : σ'.1 37 = _ := hG2.choose_spec.choose_spec.1
  refine ax_aload_n (pc' := 13) rfl dX7_meanBy_12 rfl ?_
  refine ax_getf (pc' := 16) fl_X7_56 X_o rfl dX7_meanBy_13 rfl ?_
  refine ax_sipush (pc' := 19) (v := (nI 511)) ks_511 dX7_meanBy_16 rfl ?_
  refine ax_iconst (pc' := 20) (v := (nI 0)) kc_0 dX7_meanBy_19 rfl ?_
  refine ax_callVR (pc' := 23) lv_X7_228 (c_meanOf hG2 hb hk (by decide) (by decide)) G_o rfl rfl (Nat.le_of_ble_eq_true rfl) (Nat.le_of_ble_eq_true rfl) dX7_meanBy_20 rfl ?_
  exact ax_iret dX7_meanBy_23 rfl (Nat.le_of_ble_eq_true rfl) (Nat.le_of_ble_eq_true rfl) (⟨rfl, hG2, hF⟩)
end XR2
