/-! ===== the document's numbers ===== -/
/-- a ball: girth, how many towns, walkers; L, W, R (by 6a+c), KIND, P, U -/
abbrev sp_B : Type := Nat × Nat × Nat × (Nat → Nat) × (Nat → Nat) × (Nat → Nat) × (Nat → Nat) × (Nat → Nat) × (Nat → Nat)
def sp_L (b : sp_B) : Nat → Nat := b.2.2.2.1
def sp_W (b : sp_B) : Nat → Nat := b.2.2.2.2.1
def sp_R (b : sp_B) : Nat → Nat := b.2.2.2.2.2.1
def sp_K (b : sp_B) : Nat → Nat := b.2.2.2.2.2.2.1
def sp_P (b : sp_B) : Nat → Nat := b.2.2.2.2.2.2.2.1
def sp_U (b : sp_B) : Nat → Nat := b.2.2.2.2.2.2.2.2
def sp_ok (b : sp_B) : Prop := (40 ≤ b.1 ∧ b.1 ≤ 3960) ∧ b.2.1 ≤ 6 ∧ b.2.2.1 ≤ 4 ∧ (∀ t, sp_L b t ≤ 80 ∧ sp_W b t ≤ 8) ∧ (∀ q, sp_R b q ≤ 50) ∧ (∀ w, sp_K b w ≤ 3 ∧ 1 ≤ sp_P b w ∧ sp_P b w ≤ 40 ∧ 1 ≤ sp_U b w ∧ sp_U b w ≤ 9)
def sp_far (x y : Nat) : Nat := (x - y) + (y - x)
def sp_sh (b : sp_B) (t : Nat) : Nat := sp_L b t + sp_W b t - 4
def sp_str (b : sp_B) (a c : Nat) : Nat := b.1 * sp_far (sp_L b a) (sp_L b c) / 360
def sp_road (b : sp_B) (a c : Nat) : Nat := sp_str b a c * (100 + sp_R b (6 * a + c)) / 100
def sp_deg (b : sp_B) (a c : Nat) : Nat := sp_far (sp_sh b a) (sp_sh b c)
def sp_days (b : sp_B) (w a c : Nat) : Nat := sp_road b a c / sp_P b w + 1
/-- the girth out of n stadia of u tenths over d degrees -/
def sp_go (n u d : Nat) : Option Nat := if d = 0 then none else some (36 * n * u / d)
def sp_en : Option Nat → Int32
  | none => -4
  | some n => nI n
theorem sp_str_le {b : sp_B} (hb : sp_ok b) (a c : Nat) : sp_str b a c ≤ 880 := by
  have h1 := (hb.2.2.2.1 a).1
  have h2 := (hb.2.2.2.1 c).1
  have h3 : sp_far (sp_L b a) (sp_L b c) ≤ 80 := by unfold sp_far; omega
  have h4 : b.1 * sp_far (sp_L b a) (sp_L b c) ≤ 3960 * 80 := Nat.mul_le_mul hb.1.2 h3
  unfold sp_str
  omega
theorem sp_road_le {b : sp_B} (hb : sp_ok b) (a c : Nat) : sp_road b a c ≤ 1320 := by
  have h1 := sp_str_le hb a c
  have h2 := hb.2.2.2.2.1 (6 * a + c)
  have h4 : sp_str b a c * (100 + sp_R b (6 * a + c)) ≤ 880 * 150 := Nat.mul_le_mul h1 (by omega)
  unfold sp_road
  omega
theorem sp_sh_le {b : sp_B} (hb : sp_ok b) (t : Nat) : sp_sh b t ≤ 84 := by
  have h1 := hb.2.2.2.1 t
  unfold sp_sh
  omega
theorem sp_deg_le {b : sp_B} (hb : sp_ok b) (a c : Nat) : sp_deg b a c ≤ 84 := by
  have h1 := sp_sh_le hb a
  have h2 := sp_sh_le hb c
  unfold sp_deg sp_far
  omega
theorem sp_far_le {x y m : Nat} (hx : x ≤ m) (hy : y ≤ m) : sp_far x y ≤ m := by unfold sp_far; omega
theorem sp_sub {a b : Nat} (ha : a < 2 ^ 31) (hb : b < 2 ^ 31) : nI a - nI b = nI (sp_far a b) ∨ nI a - nI b = -nI (sp_far a b) := by
  by_cases h : b ≤ a
  · left
    rw [pk_sub h]
    congr 1
    unfold sp_far; omega
  · right
    have e : sp_far a b = b - a := by unfold sp_far; omega
    have h1 : nI b - nI a = nI (b - a) := pk_sub (by omega)
    rw [e, ← h1, Int32.neg_sub]
/-! ===== Ball: what it holds ===== -/
/-- a ball's cells at p..p+7, with roads fr -/
def bl_Aw (h : ax_H) (p : Nat) (b : sp_B) (fr : Nat → Int32) : Prop := ∃ fl fn fb fk fp fu : Nat → Int32,
  h p = some (.inr (0, [.ref (p + 1), .ref (p + 2), .ref (p + 3), .ref (p + 4), .ref (p + 5), .ref (p + 6), .ref (p + 7), .int (nI b.1), .int (nI b.2.1), .int (nI b.2.2.1)])) ∧
  h (p + 1) = some (.inl (false, 6, fl)) ∧ h (p + 2) = some (.inl (false, 6, fn)) ∧ h (p + 3) = some (.inl (false, 36, fb)) ∧ h (p + 4) = some (.inl (false, 36, fr)) ∧ h (p + 5) = some (.inl (false, 4, fk)) ∧ h (p + 6) = some (.inl (false, 4, fp)) ∧ h (p + 7) = some (.inl (false, 4, fu)) ∧
  (∀ t, t < b.2.1 → fl t = nI (sp_L b t) ∧ fn t = nI (sp_W b t) - nI 4) ∧ (∀ q, q < 36 → fb q = nI (sp_R b q)) ∧ (∀ w, w < b.2.2.1 → fk w = nI (sp_K b w) ∧ fp w = nI (sp_P b w) ∧ fu w = nI (sp_U b w))
def bl_At (h : ax_H) (p : Nat) (b : sp_B) : Prop := ∃ fr : Nat → Int32, bl_Aw h p b fr ∧ ∀ a c, a < b.2.1 → c < b.2.1 → fr (6 * a + c) = nI (sp_road b a c)
theorem c_max0 {σ : ax_S} {v : Int32} {a c : Nat} (ha : a < 2 ^ 30) (hc : c < 2 ^ 30) (hv : v = nI a - nI c) : ax_R mJ9_max_7cf53 0 [.int (nI 0), .int v] σ (.int (nI (a - c))) := by
  subst hv
  refine ax_N.ofF (ls := [some (.int (nI 0)), some (.int (nI a - nI c))]) (by decide +kernel) rfl (Nat.le_of_ble_eq_true rfl) ?_
  refine ax_iload_n (pc' := 1) rfl dJ9_max_7cf53_0 rfl ?_
  refine ax_iload_n (pc' := 2) rfl dJ9_max_7cf53_1 rfl ?_
  by_cases h : c < a
  · refine ax_icmp_lt (pc' := 5) (tgt := 9) dJ9_max_7cf53_2 (by decide) rfl (fun _ => ?_) (fun hz => absurd (by rw [pk_sub (by omega)]; exact nI_lt (by omega) (by omega)) hz)
    refine ax_iload_n (pc' := 10) rfl dJ9_max_7cf53_9 rfl ?_
    exact ax_iret dJ9_max_7cf53_10 rfl (Nat.le_of_ble_eq_true rfl) (Nat.le_of_ble_eq_true rfl) (⟨by rw [pk_sub (by omega)], rfl⟩)
  · refine ax_icmp_lt (pc' := 5) (tgt := 9) dJ9_max_7cf53_2 (by decide) rfl (fun hz => absurd hz (by rw [Int32.lt_iff_toInt_lt, pk_sub_toInt ha hc, nI_toInt (by decide)]; omega)) (fun _ => ?_)
    refine ax_iload_n (pc' := 6) rfl dJ9_max_7cf53_5 rfl ?_
    refine ax_goto (tgt := 10) dJ9_max_7cf53_6 (by decide) ?_
    exact ax_iret dJ9_max_7cf53_10 rfl (Nat.le_of_ble_eq_true rfl) (Nat.le_of_ble_eq_true rfl) (⟨by rw [show a - c = 0 by omega], rfl⟩)
theorem c_shadow {σ : ax_S} {p t : Nat} {b : sp_B} {fr : Nat → Int32} (hB : bl_Aw σ.1 p b fr) (hb : sp_ok b) (ht : t < b.2.1) : ax_R mX0_shadow 1 [.ref p, .int (nI t)] σ (.int (nI (sp_sh b t))) := by
  obtain ⟨fl, fn, fb, fk, fp, fu, B_o, B_lies, B_leans, B_bends, B_roads, B_kinds, B_paces, B_units, r1, r2, r3⟩ := hB
  have h6 := hb.2.1
  obtain ⟨hL, hW⟩ := hb.2.2.2.1 t
  refine ax_N.of (ls := [some (.ref p), some (.int (nI t))]) (by decide +kernel) rfl (Nat.le_of_ble_eq_true rfl) ?_
  refine ax_iconst (pc' := 1) (v := (nI 0)) kc_0 dX0_shadow_0 rfl ?_
  refine ax_aload_n (pc' := 2) rfl dX0_shadow_1 rfl ?_
  refine ax_getf (pc' := 5) fl_X0_9 B_o rfl dX0_shadow_2 rfl ?_
  refine ax_iload_n (pc' := 6) rfl dX0_shadow_5 rfl ?_
  refine ax_callSR (pc' := 9) ls_X0_78 (c_at B_lies (by omega) (by decide)) rfl rfl (Nat.le_of_ble_eq_true rfl) (Nat.le_of_ble_eq_true rfl) dX0_shadow_6 rfl ?_
  refine ax_aload_n (pc' := 10) rfl dX0_shadow_9 rfl ?_
  refine ax_getf (pc' := 13) fl_X0_15 B_o rfl dX0_shadow_10 rfl ?_
  refine ax_iload_n (pc' := 14) rfl dX0_shadow_13 rfl ?_
  refine ax_callSR (pc' := 17) ls_X0_78 (c_at B_leans (by omega) (by decide)) rfl rfl (Nat.le_of_ble_eq_true rfl) (Nat.le_of_ble_eq_true rfl) dX0_shadow_14 rfl ?_
  refine ax_iadd (pc' := 18) dX0_shadow_17 rfl ?_
  refine ax_topi (v' := nI (sp_L b t + sp_W b t) - nI 4) (by rw [(r1 t ht).1, (r1 t ht).2, ← nI_add, Int32.sub_eq_add_neg, Int32.sub_eq_add_neg, Int32.add_assoc]) ?_
  refine ax_callSR (pc' := 21) ls_X0_89 (c_max0 (a := sp_L b t + sp_W b t) (c := 4) (by omega) (by omega) rfl) rfl rfl (Nat.le_of_ble_eq_true rfl) (Nat.le_of_ble_eq_true rfl) dX0_shadow_18 rfl ?_
  exact ax_iret dX0_shadow_21 rfl (Nat.le_of_ble_eq_true rfl) (Nat.le_of_ble_eq_true rfl) (⟨rfl, rfl⟩)
theorem c_liesApart {σ : ax_S} {p a c : Nat} {b : sp_B} {fr : Nat → Int32} (hB : bl_Aw σ.1 p b fr) (hb : sp_ok b) (ha : a < b.2.1) (hc : c < b.2.1) : ax_R mX0_liesApart 1 [.ref p, .int (nI a), .int (nI c)] σ (.int (nI (sp_far (sp_L b a) (sp_L b c)))) := by
  obtain ⟨fl, fn, fb, fk, fp, fu, B_o, B_lies, B_leans, B_bends, B_roads, B_kinds, B_paces, B_units, r1, r2, r3⟩ := hB
  have h6 := hb.2.1
  have hL := (hb.2.2.2.1 a).1
  have hL2 := (hb.2.2.2.1 c).1
  refine ax_N.of (ls := [some (.ref p), some (.int (nI a)), some (.int (nI c))]) (by decide +kernel) rfl (Nat.le_of_ble_eq_true rfl) ?_
  refine ax_aload_n (pc' := 1) rfl dX0_liesApart_0 rfl ?_
  refine ax_getf (pc' := 4) fl_X0_9 B_o rfl dX0_liesApart_1 rfl ?_
  refine ax_iload_n (pc' := 5) rfl dX0_liesApart_4 rfl ?_
  refine ax_callSR (pc' := 8) ls_X0_78 (c_at B_lies (by omega) (by decide)) rfl rfl (Nat.le_of_ble_eq_true rfl) (Nat.le_of_ble_eq_true rfl) dX0_liesApart_5 rfl ?_
  refine ax_aload_n (pc' := 9) rfl dX0_liesApart_8 rfl ?_
  refine ax_getf (pc' := 12) fl_X0_9 B_o rfl dX0_liesApart_9 rfl ?_
  refine ax_iload_n (pc' := 13) rfl dX0_liesApart_12 rfl ?_
  refine ax_callSR (pc' := 16) ls_X0_78 (c_at B_lies (by omega) (by decide)) rfl rfl (Nat.le_of_ble_eq_true rfl) (Nat.le_of_ble_eq_true rfl) dX0_liesApart_13 rfl ?_
  refine ax_isub (pc' := 17) dX0_liesApart_16 rfl ?_
  refine ax_callSR (pc' := 20) ls_X0_94 (c_abs (n := sp_far (sp_L b a) (sp_L b c)) (Nat.lt_of_le_of_lt (sp_far_le hL hL2) (by decide)) (by rw [(r1 a ha).1, (r1 c hc).1]; exact sp_sub (by omega) (by omega))) rfl rfl (Nat.le_of_ble_eq_true rfl) (Nat.le_of_ble_eq_true rfl) dX0_liesApart_17 rfl ?_
  exact ax_iret dX0_liesApart_20 rfl (Nat.le_of_ble_eq_true rfl) (Nat.le_of_ble_eq_true rfl) (⟨rfl, rfl⟩)
theorem c_shadowsApart {σ : ax_S} {p a c : Nat} {b : sp_B} {fr : Nat → Int32} (hB : bl_Aw σ.1 p b fr) (hb : sp_ok b) (ha : a < b.2.1) (hc : c < b.2.1) : ax_R mX0_shadowsApart 2 [.ref p, .int (nI a), .int (nI c)] σ (.int (nI (sp_deg b a c))) := by
  have s1 := c_shadow hB hb ha
  have s2 := c_shadow hB hb hc
  obtain ⟨fl, fn, fb, fk, fp, fu, B_o, B_lies, B_leans, B_bends, B_roads, B_kinds, B_paces, B_units, r1, r2, r3⟩ := hB
  have hL := sp_sh_le hb a
  have hL2 := sp_sh_le hb c
  refine ax_N.of (ls := [some (.ref p), some (.int (nI a)), some (.int (nI c))]) (by decide +kernel) rfl (Nat.le_of_ble_eq_true rfl) ?_
  refine ax_aload_n (pc' := 1) rfl dX0_shadowsApart_0 rfl ?_
  refine ax_iload_n (pc' := 2) rfl dX0_shadowsApart_1 rfl ?_
  refine ax_callVR (pc' := 5) lv_X0_98 (s1) B_o rfl rfl (Nat.le_of_ble_eq_true rfl) (Nat.le_of_ble_eq_true rfl) dX0_shadowsApart_2 rfl ?_
  refine ax_aload_n (pc' := 6) rfl dX0_shadowsApart_5 rfl ?_
  refine ax_iload_n (pc' := 7) rfl dX0_shadowsApart_6 rfl ?_
  refine ax_callVR (pc' := 10) lv_X0_98 (s2) B_o rfl rfl (Nat.le_of_ble_eq_true rfl) (Nat.le_of_ble_eq_true rfl) dX0_shadowsApart_7 rfl ?_
  refine ax_isub (pc' := 11) dX0_shadowsApart_10 rfl ?_
  refine ax_callSR (pc' := 14) ls_X0_94 (c_abs (n := sp_deg b a c) (Nat.lt_of_le_of_lt (sp_far_le hL hL2) (by decide)) (sp_sub (by omega) (by omega))) rfl rfl (Nat.le_of_ble_eq_true rfl) (Nat.le_of_ble_eq_true rfl) dX0_shadowsApart_11 rfl ?_
  exact ax_iret dX0_shadowsApart_14 rfl (Nat.le_of_ble_eq_true rfl) (Nat.le_of_ble_eq_true rfl) (⟨rfl, rfl⟩)
theorem c_straight {σ : ax_S} {p a c : Nat} {b : sp_B} {fr : Nat → Int32} (hB : bl_Aw σ.1 p b fr) (hb : sp_ok b) (ha : a < b.2.1) (hc : c < b.2.1) : ax_R mX0_straight 2 [.ref p, .int (nI a), .int (nI c)] σ (.int (nI (sp_str b a c))) := by
  have s1 := c_liesApart hB hb ha hc
  obtain ⟨fl, fn, fb, fk, fp, fu, B_o, B_lies, B_leans, B_bends, B_roads, B_kinds, B_paces, B_units, r1, r2, r3⟩ := hB
  have hg := hb.1.2
  have hf := sp_far_le (hb.2.2.2.1 a).1 (hb.2.2.2.1 c).1
  have hm : b.1 * sp_far (sp_L b a) (sp_L b c) ≤ 3960 * 80 := Nat.mul_le_mul hg hf
  refine ax_N.of (ls := [some (.ref p), some (.int (nI a)), some (.int (nI c))]) (by decide +kernel) rfl (Nat.le_of_ble_eq_true rfl) ?_
  refine ax_aload_n (pc' := 1) rfl dX0_straight_0 rfl ?_
  refine ax_getf (pc' := 4) fl_X0_33 B_o rfl dX0_straight_1 rfl ?_
  refine ax_i2l (pc' := 5) dX0_straight_4 rfl ?_
  refine ax_topl (nI_l (by omega)) ?_
  refine ax_aload_n (pc' := 6) rfl dX0_straight_5 rfl ?_
  refine ax_iload_n (pc' := 7) rfl dX0_straight_6 rfl ?_
  refine ax_iload_n (pc' := 8) rfl dX0_straight_7 rfl ?_
  refine ax_callVR (pc' := 11) lv_X0_101 (s1) B_o rfl rfl (Nat.le_of_ble_eq_true rfl) (Nat.le_of_ble_eq_true rfl) dX0_straight_8 rfl ?_
  refine ax_i2l (pc' := 12) dX0_straight_11 rfl ?_
  refine ax_topl (nI_l (by omega)) ?_
  refine ax_lmul (pc' := 13) dX0_straight_12 rfl ?_
  refine ax_topl (lN_mul _ _) ?_
  refine ax_sipush (pc' := 16) (v := (nI 360)) ks_360 dX0_straight_13 rfl ?_
  refine ax_callSR (pc' := 19) ls_X0_82 (c_cut (a := b.1 * sp_far (sp_L b a) (sp_L b c)) (d := 360) (by omega) (by decide) (by decide)) rfl rfl (Nat.le_of_ble_eq_true rfl) (Nat.le_of_ble_eq_true rfl) dX0_straight_16 rfl ?_
  exact ax_iret dX0_straight_19 rfl (Nat.le_of_ble_eq_true rfl) (Nat.le_of_ble_eq_true rfl) (⟨rfl, rfl⟩)
theorem ax_ix {a c : Nat} : nI a * nI 6 + nI c = nI (6 * a + c) := by rw [pk_mul, nI_add, Nat.mul_comm]
theorem c_byRoad {σ : ax_S} {p a c : Nat} {b : sp_B} (hB : bl_At σ.1 p b) (hb : sp_ok b) (ha : a < b.2.1) (hc : c < b.2.1) : ax_R mX0_byRoad 1 [.ref p, .int (nI a), .int (nI c)] σ (.int (nI (sp_road b a c))) := by
  obtain ⟨fr, ⟨fl, fn, fb, fk, fp, fu, B_o, B_lies, B_leans, B_bends, B_roads, B_kinds, B_paces, B_units, r1, r2, r3⟩, rr⟩ := hB
  have h6 := hb.2.1
  refine ax_N.of (ls := [some (.ref p), some (.int (nI a)), some (.int (nI c))]) (by decide +kernel) rfl (Nat.le_of_ble_eq_true rfl) ?_
  refine ax_aload_n (pc' := 1) rfl dX0_byRoad_0 rfl ?_
  refine ax_getf (pc' := 4) fl_X0_21 B_o rfl dX0_byRoad_1 rfl ?_
  refine ax_iload_n (pc' := 5) rfl dX0_byRoad_4 rfl ?_
  refine ax_bipush (pc' := 7) (v := (nI 6)) kb_6 dX0_byRoad_5 rfl ?_
  refine ax_imul (pc' := 8) dX0_byRoad_7 rfl ?_
  refine ax_iload_n (pc' := 9) rfl dX0_byRoad_8 rfl ?_
  refine ax_iadd (pc' := 10) dX0_byRoad_9 rfl ?_
  refine ax_topi ax_ix ?_
  refine ax_callSR (pc' := 13) ls_X0_78 (c_at B_roads (j := 6 * a + c) (by omega) (by decide)) rfl rfl (Nat.le_of_ble_eq_true rfl) (Nat.le_of_ble_eq_true rfl) dX0_byRoad_10 rfl ?_
  exact ax_iret dX0_byRoad_13 rfl (Nat.le_of_ble_eq_true rfl) (Nat.le_of_ble_eq_true rfl) (⟨by rw [rr a c ha hc], rfl⟩)
theorem c_daysOf {σ : ax_S} {p w a c : Nat} {b : sp_B} (hB : bl_At σ.1 p b) (hb : sp_ok b) (hw : w < b.2.2.1) (ha : a < b.2.1) (hc : c < b.2.1) : ax_R mX0_daysOf 2 [.ref p, .int (nI w), .int (nI a), .int (nI c)] σ (.int (nI (sp_days b w a c))) := by
  have s1 := c_byRoad hB hb ha hc
  obtain ⟨fr, ⟨fl, fn, fb, fk, fp, fu, B_o, B_lies, B_leans, B_bends, B_roads, B_kinds, B_paces, B_units, r1, r2, r3⟩, rr⟩ := hB
  have h4 := hb.2.2.1
  have hr := sp_road_le hb a c
  obtain ⟨-, hp1, hp2, -⟩ := hb.2.2.2.2.2 w
  refine ax_N.of (ls := [some (.ref p), some (.int (nI w)), some (.int (nI a)), some (.int (nI c))]) (by decide +kernel) rfl (Nat.le_of_ble_eq_true rfl) ?_
  refine ax_aload_n (pc' := 1) rfl dX0_daysOf_0 rfl ?_
  refine ax_iload_n (pc' := 2) rfl dX0_daysOf_1 rfl ?_
  refine ax_iload_n (pc' := 3) rfl dX0_daysOf_2 rfl ?_
  refine ax_callVR (pc' := 6) lv_X0_104 (s1) B_o rfl rfl (Nat.le_of_ble_eq_true rfl) (Nat.le_of_ble_eq_true rfl) dX0_daysOf_3 rfl ?_
  refine ax_i2l (pc' := 7) dX0_daysOf_6 rfl ?_
  refine ax_topl (nI_l (by omega)) ?_
  refine ax_aload_n (pc' := 8) rfl dX0_daysOf_7 rfl ?_
  refine ax_getf (pc' := 11) fl_X0_27 B_o rfl dX0_daysOf_8 rfl ?_
  refine ax_iload_n (pc' := 12) rfl dX0_daysOf_11 rfl ?_
  refine ax_callSR (pc' := 15) ls_X0_78 (c_at B_paces (by omega) (by decide)) rfl rfl (Nat.le_of_ble_eq_true rfl) (Nat.le_of_ble_eq_true rfl) dX0_daysOf_12 rfl ?_
  refine ax_topi (r3 w hw).2.1 ?_
  refine ax_callSR (pc' := 18) ls_X0_82 (c_cut (a := sp_road b a c) (d := sp_P b w) (by omega) (by omega) (by omega)) rfl rfl (Nat.le_of_ble_eq_true rfl) (Nat.le_of_ble_eq_true rfl) dX0_daysOf_15 rfl ?_
  refine ax_iconst (pc' := 19) (v := (nI 1)) kc_1 dX0_daysOf_18 rfl ?_
  refine ax_iadd (pc' := 20) dX0_daysOf_19 rfl ?_
  refine ax_topi (nI_add _ 1) ?_
  exact ax_iret dX0_daysOf_20 rfl (Nat.le_of_ble_eq_true rfl) (Nat.le_of_ble_eq_true rfl) (⟨rfl, rfl⟩)
theorem sp_go_lt {n u d : Nat} (hn : n ≤ 13300) (hu : u ≤ 9) : 36 * n * u ≤ 4309200 := by
  calc 36 * n * u ≤ (36 * 13300) * 9 := Nat.mul_le_mul (by omega) hu
    _ ≤ 4309200 := by decide
/-- degrees as the class counts them: d less 2 may be none -/
theorem c_girthOf {σ : ax_S} {p w n d : Nat} {v : Int32} {b : sp_B} {fr : Nat → Int32} (hB : bl_Aw σ.1 p b fr) (hb : sp_ok b) (hw : w < b.2.2.1) (hn : n ≤ 13300) (hd : d ≤ 1000) (hv : (0 < d ∧ v = nI d) ∨ (d = 0 ∧ v ≤ 0)) : ax_R mX0_girthOf 1 [.ref p, .int (nI w), .int (nI n), .int v] σ (.int (sp_en (sp_go n (sp_U b w) d))) := by
  obtain ⟨fl, fn, fb, fk, fp, fu, B_o, B_lies, B_leans, B_bends, B_roads, B_kinds, B_paces, B_units, r1, r2, r3⟩ := hB
  have h4 := hb.2.2.1
  obtain ⟨-, -, -, hu1, hu2⟩ := hb.2.2.2.2.2 w
  have hq := sp_go_lt (d := d) hn hu2
  refine ax_N.of (ls := [some (.ref p), some (.int (nI w)), some (.int (nI n)), some (.int v)]) (by decide +kernel) rfl (Nat.le_of_ble_eq_true rfl) ?_
  refine ax_iload_n (pc' := 1) rfl dX0_girthOf_0 rfl ?_
  rcases hv with ⟨h0, rfl⟩ | ⟨rfl, h0⟩
  · refine ax_if_le (pc' := 4) (tgt := 27) dX0_girthOf_1 (by decide) rfl (fun hz => absurd hz (nI_nle h0 (by omega))) (fun _ => ?_)
    refine ax_ldc2 (pc' := 7) kl_X0_107 dX0_girthOf_4 rfl ?_
    refine ax_iload_n (pc' := 8) rfl dX0_girthOf_7 rfl ?_
    refine ax_i2l (pc' := 9) dX0_girthOf_8 rfl ?_
    refine ax_topl (nI_l (by omega)) ?_
    refine ax_lmul (pc' := 10) dX0_girthOf_9 rfl ?_
    refine ax_topl (lN_mul 36 n) ?_
    refine ax_aload_n (pc' := 11) rfl dX0_girthOf_10 rfl ?_
    refine ax_getf (pc' := 14) fl_X0_30 B_o rfl dX0_girthOf_11 rfl ?_
    refine ax_iload_n (pc' := 15) rfl dX0_girthOf_14 rfl ?_
    refine ax_callSR (pc' := 18) ls_X0_78 (c_at B_units (by omega) (by decide)) rfl rfl (Nat.le_of_ble_eq_true rfl) (Nat.le_of_ble_eq_true rfl) dX0_girthOf_15 rfl ?_
    refine ax_topi (r3 w hw).2.2 ?_
    refine ax_i2l (pc' := 19) dX0_girthOf_18 rfl ?_
    refine ax_topl (nI_l (by omega)) ?_
    refine ax_lmul (pc' := 20) dX0_girthOf_19 rfl ?_
    refine ax_topl (lN_mul _ _) ?_
    refine ax_iload_n (pc' := 21) rfl dX0_girthOf_20 rfl ?_
    refine ax_callSR (pc' := 24) ls_X0_82 (c_cut (a := 36 * n * sp_U b w) (d := d) (by omega) h0 (by omega)) rfl rfl (Nat.le_of_ble_eq_true rfl) (Nat.le_of_ble_eq_true rfl) dX0_girthOf_21 rfl ?_
    refine ax_goto (tgt := 29) dX0_girthOf_24 (by decide) ?_
    exact ax_iret dX0_girthOf_29 rfl (Nat.le_of_ble_eq_true rfl) (Nat.le_of_ble_eq_true rfl) (⟨by simp only [sp_go, if_neg (show ¬ d = 0 by omega), sp_en], rfl⟩)
  · refine ax_if_le (pc' := 4) (tgt := 27) dX0_girthOf_1 (by decide) rfl (fun _ => ?_) (fun hz => absurd (h0) hz)
    refine ax_bipush (pc' := 29) (v := (-4)) kb_m4 dX0_girthOf_27 rfl ?_
    exact ax_iret dX0_girthOf_29 rfl (Nat.le_of_ble_eq_true rfl) (Nat.le_of_ble_eq_true rfl) (⟨by simp only [sp_go, if_true, sp_en], rfl⟩)
theorem c_offGirth {σ : ax_S} {p m : Nat} {b : sp_B} {fr : Nat → Int32} (hB : bl_Aw σ.1 p b fr) (hb : sp_ok b) (hm : m ≤ 5000000) : ax_R mX0_offGirth 1 [.ref p, .int (nI m)] σ (.int (nI (sp_far m b.1))) := by
  obtain ⟨fl, fn, fb, fk, fp, fu, B_o, B_lies, B_leans, B_bends, B_roads, B_kinds, B_paces, B_units, r1, r2, r3⟩ := hB
  have hg := hb.1.2
  refine ax_N.of (ls := [some (.ref p), some (.int (nI m))]) (by decide +kernel) rfl (Nat.le_of_ble_eq_true rfl) ?_
  refine ax_iload_n (pc' := 1) rfl dX0_offGirth_0 rfl ?_
  refine ax_aload_n (pc' := 2) rfl dX0_offGirth_1 rfl ?_
  refine ax_getf (pc' := 5) fl_X0_33 B_o rfl dX0_offGirth_2 rfl ?_
  refine ax_isub (pc' := 6) dX0_offGirth_5 rfl ?_
  refine ax_callSR (pc' := 9) ls_X0_94 (c_abs (n := sp_far m b.1) (Nat.lt_of_le_of_lt (sp_far_le hm (by omega)) (by decide)) (sp_sub (by omega) (by omega))) rfl rfl (Nat.le_of_ble_eq_true rfl) (Nat.le_of_ble_eq_true rfl) dX0_offGirth_6 rfl ?_
  exact ax_iret dX0_offGirth_9 rfl (Nat.le_of_ble_eq_true rfl) (Nat.le_of_ble_eq_true rfl) (⟨rfl, rfl⟩)
/-- MEAN m is off the girth by no more than e hundredths -/
def sp_near (g e : Nat) : Option Nat → Bool
  | none => false
  | some m => decide (100 * sp_far m g ≤ e * g)
def sp_bl (b : Bool) : Nat := if b then 1 else 0
theorem ax_cmp_gt {a b : Nat} (ha : a < 2 ^ 63) (hb : b < 2 ^ 63) : 0 < lg_cmp (lN a) (lN b) ↔ b < a := by
  unfold lg_cmp
  by_cases h : lN b < lN a
  · simp only [h, if_true]
    exact ⟨fun _ => (pk_lLT hb ha).mp h, fun _ => by decide⟩
  · have h2 : ¬ b < a := fun q => h ((pk_lLT hb ha).mpr q)
    simp only [h, if_false, h2, iff_false]
    split <;> decide
theorem nI_ne4 {m : Nat} (hm : m < 2 ^ 31) : ¬ nI m = (-4 : Int32) := fun h => nI_pos hm (by rw [h]; decide)
theorem c_isNear {σ : ax_S} {p e : Nat} {o : Option Nat} {b : sp_B} {fr : Nat → Int32} (hB : bl_Aw σ.1 p b fr) (hb : sp_ok b) (ho : ∀ m, o = some m → m ≤ 5000000) (he : e ≤ 99) : ax_R mX0_isNear 2 [.ref p, .int (sp_en o), .int (nI e)] σ (.int (nI (sp_bl (sp_near b.1 e o)))) := by
  cases o with
  | none =>
    refine ax_N.of (ls := [some (.ref p), some (.int (sp_en none)), some (.int (nI e))]) (by decide +kernel) rfl (Nat.le_of_ble_eq_true rfl) ?_
    refine ax_iload_n (pc' := 1) rfl dX0_isNear_0 rfl ?_
    refine ax_bipush (pc' := 3) (v := (-4)) kb_m4 dX0_isNear_1 rfl ?_
    refine ax_icmp_eq (pc' := 6) (tgt := 32) dX0_isNear_3 (by decide) rfl (fun _ => ?_) (fun hz => absurd (rfl) hz)
    refine ax_iconst (pc' := 33) (v := (nI 0)) kc_0 dX0_isNear_32 rfl ?_
    exact ax_zret dX0_isNear_33 rfl (by decide) (Nat.le_of_ble_eq_true rfl) (Nat.le_of_ble_eq_true rfl) (⟨rfl, rfl⟩)
  | some m =>
    have hm := ho m rfl
    have s1 := c_offGirth hB hb hm
    obtain ⟨fl, fn, fb, fk, fp, fu, B_o, B_lies, B_leans, B_bends, B_roads, B_kinds, B_paces, B_units, r1, r2, r3⟩ := hB
    have hg := hb.1.2
    have hf : sp_far m b.1 ≤ 5000000 := sp_far_le hm (by omega)
    have hmul : e * b.1 ≤ 99 * 3960 := Nat.mul_le_mul he hg
    refine ax_N.of (ls := [some (.ref p), some (.int (nI m)), some (.int (nI e))]) (by decide +kernel) rfl (Nat.le_of_ble_eq_true rfl) ?_
    refine ax_iload_n (pc' := 1) rfl dX0_isNear_0 rfl ?_
    refine ax_bipush (pc' := 3) (v := (-4)) kb_m4 dX0_isNear_1 rfl ?_
    refine ax_icmp_eq (pc' := 6) (tgt := 32) dX0_isNear_3 (by decide) rfl (fun hz => absurd hz (nI_ne4 (by omega))) (fun _ => ?_)
    refine ax_ldc2 (pc' := 9) kl_X0_109 dX0_isNear_6 rfl ?_
    refine ax_aload_n (pc' := 10) rfl dX0_isNear_9 rfl ?_
    refine ax_iload_n (pc' := 11) rfl dX0_isNear_10 rfl ?_
    refine ax_callVR (pc' := 14) lv_X0_111 (s1) B_o rfl rfl (Nat.le_of_ble_eq_true rfl) (Nat.le_of_ble_eq_true rfl) dX0_isNear_11 rfl ?_
    refine ax_i2l (pc' := 15) dX0_isNear_14 rfl ?_
    refine ax_topl (nI_l (by omega)) ?_
    refine ax_lmul (pc' := 16) dX0_isNear_15 rfl ?_
    refine ax_topl (lN_mul 100 _) ?_
    refine ax_iload_n (pc' := 17) rfl dX0_isNear_16 rfl ?_
    refine ax_i2l (pc' := 18) dX0_isNear_17 rfl ?_
    refine ax_topl (nI_l (by omega)) ?_
    refine ax_aload_n (pc' := 19) rfl dX0_isNear_18 rfl ?_
    refine ax_getf (pc' := 22) fl_X0_33 B_o rfl dX0_isNear_19 rfl ?_
    refine ax_i2l (pc' := 23) dX0_isNear_22 rfl ?_
    refine ax_topl (nI_l (by omega)) ?_
    refine ax_lmul (pc' := 24) dX0_isNear_23 rfl ?_
    refine ax_topl (lN_mul e b.1) ?_
    refine ax_lcmp (pc' := 25) dX0_isNear_24 rfl ?_
    by_cases hc : 100 * sp_far m b.1 ≤ e * b.1
    · refine ax_if_gt (pc' := 28) (tgt := 32) dX0_isNear_25 (by decide) rfl (fun hz => absurd hz (fun h => absurd ((ax_cmp_gt (by omega) (by omega)).mp h) (by omega))) (fun _ => ?_)
      refine ax_iconst (pc' := 29) (v := (nI 1)) kc_1 dX0_isNear_28 rfl ?_
      refine ax_goto (tgt := 33) dX0_isNear_29 (by decide) ?_
      exact ax_zret dX0_isNear_33 rfl (by decide) (Nat.le_of_ble_eq_true rfl) (Nat.le_of_ble_eq_true rfl) (⟨by simp [sp_near, sp_bl, hc], rfl⟩)
    · refine ax_if_gt (pc' := 28) (tgt := 32) dX0_isNear_25 (by decide) rfl (fun _ => ?_) (fun hz => absurd ((ax_cmp_gt (by omega) (by omega)).mpr (by omega)) hz)
      refine ax_iconst (pc' := 33) (v := (nI 0)) kc_0 dX0_isNear_32 rfl ?_
      exact ax_zret dX0_isNear_33 rfl (by decide) (Nat.le_of_ble_eq_true rfl) (Nat.le_of_ble_eq_true rfl) (⟨by simp [sp_near, sp_bl, hc], rfl⟩)
/-! which town, which walker -/
theorem c_isTownT {σ : ax_S} {p j : Nat} {b : sp_B} {fr : Nat → Int32} (hB : bl_Aw σ.1 p b fr) (h6 : b.2.1 ≤ 6) (hj : j < b.2.1) : ax_R mX0_isTown 0 [.ref p, .int (nI j)] σ (.int (nI 1)) := by
  obtain ⟨fl, fn, fb, fk, fp, fu, B_o, -⟩ := hB
  refine ax_N.of (ls := [some (.ref p), some (.int (nI j))]) (by decide +kernel) rfl (Nat.le_of_ble_eq_true rfl) ?_
  refine ax_iload_n (pc' := 1) rfl dX0_isTown_0 rfl ?_
  refine ax_if_lt (pc' := 4) (tgt := 16) dX0_isTown_1 (by decide) rfl (fun hz => absurd hz (nI_pos (by omega))) (fun _ => ?_)
  refine ax_iload_n (pc' := 5) rfl dX0_isTown_4 rfl ?_
  refine ax_aload_n (pc' := 6) rfl dX0_isTown_5 rfl ?_
  refine ax_getf (pc' := 9) fl_X0_37 B_o rfl dX0_isTown_6 rfl ?_
  refine ax_icmp_ge (pc' := 12) (tgt := 16) dX0_isTown_9 (by decide) rfl (fun hz => absurd hz (nI_ge hj (by omega))) (fun _ => ?_)
  refine ax_iconst (pc' := 13) (v := (nI 1)) kc_1 dX0_isTown_12 rfl ?_
  refine ax_goto (tgt := 17) dX0_isTown_13 (by decide) ?_
  exact ax_zret dX0_isTown_17 rfl (by decide) (Nat.le_of_ble_eq_true rfl) (Nat.le_of_ble_eq_true rfl) (⟨rfl, rfl⟩)
theorem c_isTownF {σ : ax_S} {p : Nat} {v : Int32} {b : sp_B} {fr : Nat → Int32} (hB : bl_Aw σ.1 p b fr) (h6 : b.2.1 ≤ 6) (hv : ¬ ∃ j, j < b.2.1 ∧ v = nI j) : ax_R mX0_isTown 0 [.ref p, .int v] σ (.int (nI 0)) := by
  obtain ⟨fl, fn, fb, fk, fp, fu, B_o, -⟩ := hB
  refine ax_N.of (ls := [some (.ref p), some (.int v)]) (by decide +kernel) rfl (Nat.le_of_ble_eq_true rfl) ?_
  refine ax_iload_n (pc' := 1) rfl dX0_isTown_0 rfl ?_
  refine ax_if_lt (pc' := 4) (tgt := 16) dX0_isTown_1 (by decide) rfl (fun h0 => ?_) (fun h0 => ?_)
  · refine ax_iconst (pc' := 17) (v := (nI 0)) kc_0 dX0_isTown_16 rfl ?_
    exact ax_zret dX0_isTown_17 rfl (by decide) (Nat.le_of_ble_eq_true rfl) (Nat.le_of_ble_eq_true rfl) (⟨rfl, rfl⟩)
  · obtain ⟨j, hj, rfl⟩ := nI_of h0
    have hge : b.2.1 ≤ j := Nat.not_lt.mp (fun h => hv ⟨j, h, rfl⟩)
    refine ax_iload_n (pc' := 5) rfl dX0_isTown_4 rfl ?_
    refine ax_aload_n (pc' := 6) rfl dX0_isTown_5 rfl ?_
    refine ax_getf (pc' := 9) fl_X0_37 B_o rfl dX0_isTown_6 rfl ?_
    refine ax_icmp_ge (pc' := 12) (tgt := 16) dX0_isTown_9 (by decide) rfl (fun _ => ?_) (fun hz => absurd (nI_le hge hj) hz)
    refine ax_iconst (pc' := 17) (v := (nI 0)) kc_0 dX0_isTown_16 rfl ?_
    exact ax_zret dX0_isTown_17 rfl (by decide) (Nat.le_of_ble_eq_true rfl) (Nat.le_of_ble_eq_true rfl) (⟨rfl, rfl⟩)
theorem c_isWalkerT {σ : ax_S} {p j : Nat} {b : sp_B} {fr : Nat → Int32} (hB : bl_Aw σ.1 p b fr) (h6 : b.2.2.1 ≤ 4) (hj : j < b.2.2.1) : ax_R mX0_isWalker 0 [.ref p, .int (nI j)] σ (.int (nI 1)) := by
  obtain ⟨fl, fn, fb, fk, fp, fu, B_o, -⟩ := hB
  refine ax_N.of (ls := [some (.ref p), some (.int (nI j))]) (by decide +kernel) rfl (Nat.le_of_ble_eq_true rfl) ?_
  refine ax_iload_n (pc' := 1) rfl dX0_isWalker_0 rfl ?_
  refine ax_if_lt (pc' := 4) (tgt := 16) dX0_isWalker_1 (by decide) rfl (fun hz => absurd hz (nI_pos (by omega))) (fun _ => ?_)
  refine ax_iload_n (pc' := 5) rfl dX0_isWalker_4 rfl ?_
  refine ax_aload_n (pc' := 6) rfl dX0_isWalker_5 rfl ?_
  refine ax_getf (pc' := 9) fl_X0_40 B_o rfl dX0_isWalker_6 rfl ?_
  refine ax_icmp_ge (pc' := 12) (tgt := 16) dX0_isWalker_9 (by decide) rfl (fun hz => absurd hz (nI_ge hj (by omega))) (fun _ => ?_)
  refine ax_iconst (pc' := 13) (v := (nI 1)) kc_1 dX0_isWalker_12 rfl ?_
  refine ax_goto (tgt := 17) dX0_isWalker_13 (by decide) ?_
  exact ax_zret dX0_isWalker_17 rfl (by decide) (Nat.le_of_ble_eq_true rfl) (Nat.le_of_ble_eq_true rfl) (⟨rfl, rfl⟩)
theorem c_isWalkerF {σ : ax_S} {p : Nat} {v : Int32} {b : sp_B} {fr : Nat → Int32} (hB : bl_Aw σ.1 p b fr) (h6 : b.2.2.1 ≤ 4) (hv : ¬ ∃ j, j < b.2.2.1 ∧ v = nI j) : ax_R mX0_isWalker 0 [.ref p, .int v] σ (.int (nI 0)) := by
  obtain ⟨fl, fn, fb, fk, fp, fu, B_o, -⟩ := hB
  refine ax_N.of (ls := [some (.ref p), some (.int v)]) (by decide +kernel) rfl (Nat.le_of_ble_eq_true rfl) ?_
  refine ax_iload_n (pc' := 1) rfl dX0_isWalker_0 rfl ?_
  refine ax_if_lt (pc' := 4) (tgt := 16) dX0_isWalker_1 (by decide) rfl (fun h0 => ?_) (fun h0 => ?_)
  · refine ax_iconst (pc' := 17) (v := (nI 0)) kc_0 dX0_isWalker_16 rfl ?_
    exact ax_zret dX0_isWalker_17 rfl (by decide) (Nat.le_of_ble_eq_true rfl) (Nat.le_of_ble_eq_true rfl) (⟨rfl, rfl⟩)
  · obtain ⟨j, hj, rfl⟩ := nI_of h0
    have hge : b.2.2.1 ≤ j := Nat.not_lt.mp (fun h => hv ⟨j, h, rfl⟩)
    refine ax_iload_n (pc' := 5) rfl dX0_isWalker_4 rfl ?_
    refine ax_aload_n (pc' := 6) rfl dX0_isWalker_5 rfl ?_
    refine ax_getf (pc' := 9) fl_X0_40 B_o rfl dX0_isWalker_6 rfl ?_
    refine ax_icmp_ge (pc' := 12) (tgt := 16) dX0_isWalker_9 (by decide) rfl (fun _ => ?_) (fun hz => absurd (nI_le hge hj) hz)
    refine ax_iconst (pc' := 17) (v := (nI 0)) kc_0 dX0_isWalker_16 rfl ?_
    exact ax_zret dX0_isWalker_17 rfl (by decide) (Nat.le_of_ble_eq_true rfl) (Nat.le_of_ble_eq_true rfl) (⟨rfl, rfl⟩)
theorem c_areTwoTownsT {σ : ax_S} {p a c : Nat} {b : sp_B} {fr : Nat → Int32} (hB : bl_Aw σ.1 p b fr) (h6 : b.2.1 ≤ 6) (ha : a < b.2.1) (hc : c < b.2.1) (hac : a ≠ c) : ax_R mX0_areTwoTowns 1 [.ref p, .int (nI a), .int (nI c)] σ (.int (nI 1)) := by
  have s1 := c_isTownT hB h6 ha
  have s2 := c_isTownT hB h6 hc
  obtain ⟨fl, fn, fb, fk, fp, fu, B_o, -⟩ := hB
  refine ax_N.of (ls := [some (.ref p), some (.int (nI a)), some (.int (nI c))]) (by decide +kernel) rfl (Nat.le_of_ble_eq_true rfl) ?_
  refine ax_aload_n (pc' := 1) rfl dX0_areTwoTowns_0 rfl ?_
  refine ax_iload_n (pc' := 2) rfl dX0_areTwoTowns_1 rfl ?_
  refine ax_callVR (pc' := 5) lv_X0_86 (s1) B_o rfl rfl (Nat.le_of_ble_eq_true rfl) (Nat.le_of_ble_eq_true rfl) dX0_areTwoTowns_2 rfl ?_
  refine ax_if_eq (pc' := 8) (tgt := 25) dX0_areTwoTowns_5 (by decide) rfl (fun hz => absurd hz (kz_1)) (fun _ => ?_)
  refine ax_aload_n (pc' := 9) rfl dX0_areTwoTowns_8 rfl ?_
  refine ax_iload_n (pc' := 10) rfl dX0_areTwoTowns_9 rfl ?_
  refine ax_callVR (pc' := 13) lv_X0_86 (s2) B_o rfl rfl (Nat.le_of_ble_eq_true rfl) (Nat.le_of_ble_eq_true rfl) dX0_areTwoTowns_10 rfl ?_
  refine ax_if_eq (pc' := 16) (tgt := 25) dX0_areTwoTowns_13 (by decide) rfl (fun hz => absurd hz (kz_1)) (fun _ => ?_)
  refine ax_iload_n (pc' := 17) rfl dX0_areTwoTowns_16 rfl ?_
  refine ax_iload_n (pc' := 18) rfl dX0_areTwoTowns_17 rfl ?_
  refine ax_icmp_eq (pc' := 21) (tgt := 25) dX0_areTwoTowns_18 (by decide) rfl (fun hz => absurd hz (fun h => hac ((nI_eq (by omega) (by omega)).mp h))) (fun _ => ?_)
  refine ax_iconst (pc' := 22) (v := (nI 1)) kc_1 dX0_areTwoTowns_21 rfl ?_
  refine ax_goto (tgt := 26) dX0_areTwoTowns_22 (by decide) ?_
  exact ax_zret dX0_areTwoTowns_26 rfl (by decide) (Nat.le_of_ble_eq_true rfl) (Nat.le_of_ble_eq_true rfl) (⟨rfl, rfl⟩)
theorem c_areTwoTownsF {σ : ax_S} {p : Nat} {v u : Int32} {b : sp_B} {fr : Nat → Int32} (hB : bl_Aw σ.1 p b fr) (h6 : b.2.1 ≤ 6) (hv : ¬ ∃ a c, a < b.2.1 ∧ c < b.2.1 ∧ a ≠ c ∧ v = nI a ∧ u = nI c) : ax_R mX0_areTwoTowns 1 [.ref p, .int v, .int u] σ (.int (nI 0)) := by
  have hB0 := hB
  obtain ⟨fl, fn, fb, fk, fp, fu, B_o, -⟩ := hB
  refine ax_N.of (ls := [some (.ref p), some (.int v), some (.int u)]) (by decide +kernel) rfl (Nat.le_of_ble_eq_true rfl) ?_
  refine ax_aload_n (pc' := 1) rfl dX0_areTwoTowns_0 rfl ?_
  refine ax_iload_n (pc' := 2) rfl dX0_areTwoTowns_1 rfl ?_
  by_cases h1 : ∃ j, j < b.2.1 ∧ v = nI j
  · obtain ⟨a, ha, rfl⟩ := h1
    refine ax_callVR (pc' := 5) lv_X0_86 (c_isTownT hB0 h6 ha) B_o rfl rfl (Nat.le_of_ble_eq_true rfl) (Nat.le_of_ble_eq_true rfl) dX0_areTwoTowns_2 rfl ?_
    refine ax_if_eq (pc' := 8) (tgt := 25) dX0_areTwoTowns_5 (by decide) rfl (fun hz => absurd hz (kz_1)) (fun _ => ?_)
    refine ax_aload_n (pc' := 9) rfl dX0_areTwoTowns_8 rfl ?_
    refine ax_iload_n (pc' := 10) rfl dX0_areTwoTowns_9 rfl ?_
    by_cases h2 : ∃ j, j < b.2.1 ∧ u = nI j
    · obtain ⟨c, hc, rfl⟩ := h2
      have hac : a = c := Classical.byContradiction (fun h => hv ⟨a, c, ha, hc, h, rfl, rfl⟩)
      subst hac
      refine ax_callVR (pc' := 13) lv_X0_86 (c_isTownT hB0 h6 hc) B_o rfl rfl (Nat.le_of_ble_eq_true rfl) (Nat.le_of_ble_eq_true rfl) dX0_areTwoTowns_10 rfl ?_
      refine ax_if_eq (pc' := 16) (tgt := 25) dX0_areTwoTowns_13 (by decide) rfl (fun hz => absurd hz (kz_1)) (fun _ => ?_)
      refine ax_iload_n (pc' := 17) rfl dX0_areTwoTowns_16 rfl ?_
      refine ax_iload_n (pc' := 18) rfl dX0_areTwoTowns_17 rfl ?_
      refine ax_icmp_eq (pc' := 21) (tgt := 25) dX0_areTwoTowns_18 (by decide) rfl (fun _ => ?_) (fun hz => absurd (rfl) hz)
      refine ax_iconst (pc' := 26) (v := (nI 0)) kc_0 dX0_areTwoTowns_25 rfl ?_
      exact ax_zret dX0_areTwoTowns_26 rfl (by decide) (Nat.le_of_ble_eq_true rfl) (Nat.le_of_ble_eq_true rfl) (⟨rfl, rfl⟩)
    · refine ax_callVR (pc' := 13) lv_X0_86 (c_isTownF hB0 h6 h2) B_o rfl rfl (Nat.le_of_ble_eq_true rfl) (Nat.le_of_ble_eq_true rfl) dX0_areTwoTowns_10 rfl ?_
      refine ax_if_eq (pc' := 16) (tgt := 25) dX0_areTwoTowns_13 (by decide) rfl (fun _ => ?_) (fun hz => absurd (kz_0) hz)
      refine ax_iconst (pc' := 26) (v := (nI 0)) kc_0 dX0_areTwoTowns_25 rfl ?_
      exact ax_zret dX0_areTwoTowns_26 rfl (by decide) (Nat.le_of_ble_eq_true rfl) (Nat.le_of_ble_eq_true rfl) (⟨rfl, rfl⟩)
  · refine ax_callVR (pc' := 5) lv_X0_86 (c_isTownF hB0 h6 h1) B_o rfl rfl (Nat.le_of_ble_eq_true rfl) (Nat.le_of_ble_eq_true rfl) dX0_areTwoTowns_2 rfl ?_
    refine ax_if_eq (pc' := 8) (tgt := 25) dX0_areTwoTowns_5 (by decide) rfl (fun _ => ?_) (fun hz => absurd (kz_0) hz)
    refine ax_iconst (pc' := 26) (v := (nI 0)) kc_0 dX0_areTwoTowns_25 rfl ?_
    exact ax_zret dX0_areTwoTowns_26 rfl (by decide) (Nat.le_of_ble_eq_true rfl) (Nat.le_of_ble_eq_true rfl) (⟨rfl, rfl⟩)
