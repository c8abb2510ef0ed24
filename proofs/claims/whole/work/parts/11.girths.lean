/-! ===== Girths ===== -/
def sp_gb (b : sp_B) (q : sp_rep) : Option Nat := sp_go q.2.2.2 (sp_U b q.1) (sp_deg b q.2.1 q.2.2.1)
def sp_gm (b : sp_B) (q : sp_rep) : Option Nat := sp_go (9 * q.2.2.2 / 10) (sp_U b q.1) (sp_deg b q.2.1 q.2.2.1)
def sp_sum (v : Nat → Option Nat) : Nat → Nat
  | 0 => 0
  | k + 1 => sp_sum v k + (v k).getD 0
def sp_cnt (v : Nat → Option Nat) : Nat → Nat
  | 0 => 0
  | k + 1 => sp_cnt v k + (if (v k).isSome then 1 else 0)
def sp_mean (v : Nat → Option Nat) (k : Nat) : Option Nat := if sp_cnt v k = 0 then none else some (sp_sum v k / sp_cnt v k)
def sp_has (s i : Nat) : Bool := decide (s / 2 ^ i % 2 = 1)
/-- the girths by the reports of a set, those of another miscounted -/
def sp_sel (b : sp_B) (rs : List sp_rep) (ms sh : Nat) (i : Nat) : Option Nat := if sp_has ms i then (if sp_has sh i then sp_gm b (sp_at rs i) else sp_gb b (sp_at rs i)) else none
theorem sp_go_le {n u d m : Nat} (hn : n ≤ 13300) (hu : u ≤ 9) (h : sp_go n u d = some m) : m ≤ 4309200 := by
  unfold sp_go at h
  split at h
  · cases h
  · cases h
    exact Nat.le_trans (Nat.div_le_self _ _) (sp_go_lt (d := d) hn hu)
theorem sp_gb_le {b : sp_B} {q : sp_rep} {m : Nat} (hb : sp_ok b) (hq : q.2.2.2 ≤ 13300) (h : sp_gb b q = some m) : m ≤ 4309200 := sp_go_le hq (hb.2.2.2.2.2 q.1).2.2.2.2 h
theorem sp_gm_le {b : sp_B} {q : sp_rep} {m : Nat} (hb : sp_ok b) (hq : q.2.2.2 ≤ 13300) (h : sp_gm b q = some m) : m ≤ 4309200 := sp_go_le (by omega) (hb.2.2.2.2.2 q.1).2.2.2.2 h
theorem sp_sel_le {b : sp_B} {rs : List sp_rep} {ms sh i m : Nat} (hb : sp_ok b) (hk : bk_ok b rs) (hi : i < rs.length) (h : sp_sel b rs ms sh i = some m) : m ≤ 4309200 := by
  obtain ⟨-, -, -, hq⟩ := hk.2 i hi
  unfold sp_sel at h
  split at h
  · split at h
    · exact sp_gm_le hb hq h
    · exact sp_gb_le hb hq h
  · cases h
theorem sp_sum_le {v : Nat → Option Nat} {N : Nat} {k : Nat} (hv : ∀ i m, i < k → v i = some m → m ≤ N) : sp_sum v k ≤ N * sp_cnt v k ∧ sp_cnt v k ≤ k := by
  induction k with
  | zero => exact ⟨Nat.zero_le _, Nat.le_refl 0⟩
  | succ k ih =>
    obtain ⟨h1, h2⟩ := ih (fun i m hi h => hv i m (by omega) h)
    simp only [sp_sum, sp_cnt]
    cases e : v k with
    | none => simp; exact ⟨h1, by omega⟩
    | some m =>
      have := hv k m (by omega) e
      simp
      rw [Nat.mul_add]
      omega
theorem sp_mean_le {v : Nat → Option Nat} {N k m : Nat} (hv : ∀ i m, i < k → v i = some m → m ≤ N) (h : sp_mean v k = some m) : m ≤ N := by
  unfold sp_mean at h
  split at h
  · cases h
  · cases h
    have := (sp_sum_le hv).1
    exact Nat.div_le_of_le_mul (by rw [Nat.mul_comm]; exact this)
theorem sp_bit_ok : ∀ s, s < 512 → ∀ r, r < 9 → (sp_has s r = true → ¬ (nI s &&& (nI 1 <<< (nI r &&& 31))) = 0) ∧ (sp_has s r = false → (nI s &&& (nI 1 <<< (nI r &&& 31))) = 0) := by decide +kernel
def gi_Any (h : ax_H) : Prop := ∃ (v : Int32) (f g : Nat → Int32), h 37 = some (.inr (2, [.ref 38, .ref 39, .int v])) ∧ h 38 = some (.inl (false, 9, f)) ∧ h 39 = some (.inl (false, 9, g))
def gi_At (h : ax_H) (b : sp_B) (rs : List sp_rep) : Prop := ∃ (f g : Nat → Int32), h 37 = some (.inr (2, [.ref 38, .ref 39, .int (nI rs.length)])) ∧ h 38 = some (.inl (false, 9, f)) ∧ h 39 = some (.inl (false, 9, g)) ∧ ∀ i, i < rs.length → f i = sp_en (sp_gb b (sp_at rs i)) ∧ g i = sp_en (sp_gm b (sp_at rs i))
theorem gi_At.any {h : ax_H} {b : sp_B} {rs : List sp_rep} (hG : gi_At h b rs) : gi_Any h := by
  obtain ⟨f, g, a1, a2, a3, -⟩ := hG
  exact ⟨_, f, g, a1, a2, a3⟩
theorem gi_Any.fr {σ τ : ax_S} {q k : Nat} (hG : gi_Any σ.1) (h : ax_fr q k σ τ) (hd : 40 ≤ q ∨ q + k ≤ 37) : gi_Any τ.1 := by
  obtain ⟨v, f, g, a1, a2, a3⟩ := hG
  exact ⟨v, f, g, h.at a1 (by omega), h.at a2 (by omega), h.at a3 (by omega)⟩
theorem sp_degv {d : Nat} (hd : d ≤ 1000) : (0 < d ∧ nI d = nI d) ∨ (d = 0 ∧ nI d ≤ 0) := by
  by_cases h : d = 0
  · subst h; right; exact ⟨rfl, by decide⟩
  · left; exact ⟨by omega, rfl⟩
theorem c_reckon {σ : ax_S} {p q dy : Nat} {rs : List sp_rep} {b : sp_B} {fr : Nat → Int32} (hG : gi_Any σ.1) (hB : bl_Aw σ.1 p b fr) (hb : sp_ok b) (hK : bk_At σ.1 q rs dy) (hk : bk_ok b rs) (hp : 40 ≤ p) (hq : q + 5 ≤ 37) : ax_N mX2_reckon 3 0 0 [.ref 37, .ref p, .ref q] σ (fun r τ => r = none ∧ gi_At τ.1 b rs ∧ ax_fr 37 3 σ τ) := by
  obtain ⟨v, f, g, G_o, G_asTold, G_miscounted⟩ := hG
  have K_o : σ.1 q = _ := hK.choose_spec.choose_spec.choose_spec.choose_spec.1
  have h9 := hk.1
  refine ax_N.of (ls := [some (.ref 37), some (.ref p), some (.ref q), none, none, none, none]) (by decide +kernel) rfl (Nat.le_of_ble_eq_true rfl) ?_
  refine ax_aload_n (pc' := 1) rfl dX2_reckon_0 rfl ?_
  refine ax_aload_n (pc' := 2) rfl dX2_reckon_1 rfl ?_
  refine ax_getf (pc' := 5) fl_X2_22 K_o rfl dX2_reckon_2 rfl ?_
  refine ax_putu (pc' := 8) fp_X2_18 G_o rfl (fun _ => ⟨rfl, rfl⟩) dX2_reckon_5 rfl (fun s1 h1 => ?_)
  have G_o := ax_kS h1
  have G_asTold := ax_kN h1 G_asTold (by omega)
  have G_miscounted := ax_kN h1 G_miscounted (by omega)
  have hF : ax_fr 37 3 σ s1 := ax_fr.rf.up h1 (by omega) (by omega)
  refine ax_iconst (pc' := 9) (v := (nI 0)) kc_0 dX2_reckon_8 rfl ?_
  refine ax_istore_n (pc' := 10) rfl (Nat.le_of_ble_eq_true rfl) dX2_reckon_9 rfl ?_
  have K : ∀ m i (f g : Nat → Int32) (τ : ax_S) (z4 z5 z6 : Option Value), i + m = rs.length → τ.1 37 = some (.inr (2, [.ref 38, .ref 39, .int (nI rs.length)])) → τ.1 38 = some (.inl (false, 9, f)) → τ.1 39 = some (.inl (false, 9, g)) → (∀ j, j < i → f j = sp_en (sp_gb b (sp_at rs j)) ∧ g j = sp_en (sp_gm b (sp_at rs j))) → ax_fr 37 3 σ τ → ax_J (mX2_reckon, 3, 0, 0) 0 0 10 [some (.ref 37), some (.ref p), some (.ref q), some (.int (nI i)), z4, z5, z6] [] τ (fun r τ => r = none ∧ gi_At τ.1 b rs ∧ ax_fr 37 3 σ τ) := by
    intro m
    induction m with
    | zero =>
      intro i f g τ z4 z5 z6 hi G_o G_asTold G_miscounted hv hF
      have hi : i = rs.length := hi
      subst hi
      refine ax_iload_n (pc' := 11) rfl dX2_reckon_10 rfl ?_
      refine ax_aload_n (pc' := 12) rfl dX2_reckon_11 rfl ?_
      refine ax_getf (pc' := 15) fl_X2_18 G_o rfl dX2_reckon_12 rfl ?_
      refine ax_icmp_ge (pc' := 18) (tgt := 105) dX2_reckon_15 (by decide) rfl (fun _ => ?_) (fun hz => absurd (nI_le (Nat.le_refl _) (by omega)) hz)
      exact ax_vret dX2_reckon_105 rfl (Nat.le_of_ble_eq_true rfl) (Nat.le_of_ble_eq_true rfl) (⟨rfl, ⟨f, g, G_o, G_asTold, G_miscounted, hv⟩, hF⟩)
    | succ m ih =>
      intro i f g τ z4 z5 z6 hi G_o G_asTold G_miscounted hv hF
      have hB1 := hB.fr hF (by omega)
      have B_o : τ.1 p = _ := hB1.choose_spec.choose_spec.choose_spec.choose_spec.choose_spec.choose_spec.1
      have hil : i < rs.length := by omega
      obtain ⟨gw, gf, gt, gs, K_o, K_who, K_from, K_to, K_stadia, hg⟩ := hK.fr hF (by omega)
      obtain ⟨e0, e1, e2, e3⟩ := hg i hil
      obtain ⟨q0, q1, q2, q3⟩ := hk.2 i hil
      have hdg := sp_deg_le hb (sp_at rs i).2.1 (sp_at rs i).2.2.1
      refine ax_iload_n (pc' := 11) rfl dX2_reckon_10 rfl ?_
      refine ax_aload_n (pc' := 12) rfl dX2_reckon_11 rfl ?_
      refine ax_getf (pc' := 15) fl_X2_18 G_o rfl dX2_reckon_12 rfl ?_
      refine ax_icmp_ge (pc' := 18) (tgt := 105) dX2_reckon_15 (by decide) rfl (fun hz => absurd hz (nI_ge hil (by omega))) (fun _ => ?_)
      refine ax_aload_n (pc' := 19) rfl dX2_reckon_18 rfl ?_
      refine ax_getf (pc' := 22) fl_X2_25 K_o rfl dX2_reckon_19 rfl ?_
      refine ax_iload_n (pc' := 23) rfl dX2_reckon_22 rfl ?_
      refine ax_callSR (pc' := 26) ls_X2_28 (c_at K_who (by omega) (by decide)) rfl rfl (Nat.le_of_ble_eq_true rfl) (Nat.le_of_ble_eq_true rfl) dX2_reckon_23 rfl ?_
      refine ax_topi e0 ?_
      refine ax_istore (pc' := 28) rfl (Nat.le_of_ble_eq_true rfl) dX2_reckon_26 rfl ?_
      refine ax_aload_n (pc' := 29) rfl dX2_reckon_28 rfl ?_
      refine ax_getf (pc' := 32) fl_X2_32 K_o rfl dX2_reckon_29 rfl ?_
      refine ax_iload_n (pc' := 33) rfl dX2_reckon_32 rfl ?_
      refine ax_callSR (pc' := 36) ls_X2_28 (c_at K_stadia (by omega) (by decide)) rfl rfl (Nat.le_of_ble_eq_true rfl) (Nat.le_of_ble_eq_true rfl) dX2_reckon_33 rfl ?_
      refine ax_topi e3 ?_
      refine ax_istore (pc' := 38) rfl (Nat.le_of_ble_eq_true rfl) dX2_reckon_36 rfl ?_
      refine ax_aload_n (pc' := 39) rfl dX2_reckon_38 rfl ?_
      refine ax_aload_n (pc' := 40) rfl dX2_reckon_39 rfl ?_
      refine ax_getf (pc' := 43) fl_X2_35 K_o rfl dX2_reckon_40 rfl ?_
      refine ax_iload_n (pc' := 44) rfl dX2_reckon_43 rfl ?_
      refine ax_callSR (pc' := 47) ls_X2_28 (c_at K_from (by omega) (by decide)) rfl rfl (Nat.le_of_ble_eq_true rfl) (Nat.le_of_ble_eq_true rfl) dX2_reckon_44 rfl ?_
      refine ax_topi e1 ?_
      refine ax_aload_n (pc' := 48) rfl dX2_reckon_47 rfl ?_
      refine ax_getf (pc' := 51) fl_X2_38 K_o rfl dX2_reckon_48 rfl ?_
      refine ax_iload_n (pc' := 52) rfl dX2_reckon_51 rfl ?_
      refine ax_callSR (pc' := 55) ls_X2_28 (c_at K_to (by omega) (by decide)) rfl rfl (Nat.le_of_ble_eq_true rfl) (Nat.le_of_ble_eq_true rfl) dX2_reckon_52 rfl ?_
      refine ax_topi e2 ?_
      refine ax_callVR (pc' := 58) lv_X2_41 (c_shadowsApart hB1 hb q1 q2) B_o rfl rfl (Nat.le_of_ble_eq_true rfl) (Nat.le_of_ble_eq_true rfl) dX2_reckon_55 rfl ?_
      refine ax_istore (pc' := 60) rfl (Nat.le_of_ble_eq_true rfl) dX2_reckon_58 rfl ?_
      refine ax_aload_n (pc' := 61) rfl dX2_reckon_60 rfl ?_
      refine ax_getf (pc' := 64) fl_X2_9 G_o rfl dX2_reckon_61 rfl ?_
      refine ax_iload_n (pc' := 65) rfl dX2_reckon_64 rfl ?_
      refine ax_aload_n (pc' := 66) rfl dX2_reckon_65 rfl ?_
      refine ax_iload (pc' := 68) rfl dX2_reckon_66 rfl ?_
      refine ax_iload (pc' := 70) rfl dX2_reckon_68 rfl ?_
      refine ax_iload (pc' := 72) rfl dX2_reckon_70 rfl ?_
      refine ax_callVR (pc' := 75) lv_X2_47 (c_girthOf hB1 hb q0 q3 (by omega) (sp_degv (by omega))) B_o rfl rfl (Nat.le_of_ble_eq_true rfl) (Nat.le_of_ble_eq_true rfl) dX2_reckon_72 rfl ?_
      refine ax_callSU (pc' := 78) ls_X2_51 (c_put G_asTold (j := i) (by omega) (by decide)) rfl rfl (Nat.le_of_ble_eq_true rfl) (Nat.le_of_ble_eq_true rfl) dX2_reckon_75 rfl (fun s2 h2 => ?_)
      have G_asTold := ax_kS h2
      have G_o := ax_kN h2 G_o (by omega)
      have G_miscounted := ax_kN h2 G_miscounted (by omega)
      have B_o := ax_kN h2 B_o (by omega)
      have hB2 := hB1.up h2 (by omega)
      refine ax_aload_n (pc' := 79) rfl dX2_reckon_78 rfl ?_
      refine ax_getf (pc' := 82) fl_X2_15 G_o rfl dX2_reckon_79 rfl ?_
      refine ax_iload_n (pc' := 83) rfl dX2_reckon_82 rfl ?_
      refine ax_aload_n (pc' := 84) rfl dX2_reckon_83 rfl ?_
      refine ax_iload (pc' := 86) rfl dX2_reckon_84 rfl ?_
      refine ax_iload (pc' := 88) rfl dX2_reckon_86 rfl ?_
      refine ax_callSR (pc' := 91) ls_X2_55 (c_nineTenths (n := (sp_at rs i).2.2.2) (by omega)) rfl rfl (Nat.le_of_ble_eq_true rfl) (Nat.le_of_ble_eq_true rfl) dX2_reckon_88 rfl ?_
      refine ax_iload (pc' := 93) rfl dX2_reckon_91 rfl ?_
      refine ax_callVR (pc' := 96) lv_X2_47 (c_girthOf hB2 hb q0 (by omega) (by omega) (sp_degv (by omega))) B_o rfl rfl (Nat.le_of_ble_eq_true rfl) (Nat.le_of_ble_eq_true rfl) dX2_reckon_93 rfl ?_
      refine ax_callSU (pc' := 99) ls_X2_51 (c_put G_miscounted (j := i) (by omega) (by decide)) rfl rfl (Nat.le_of_ble_eq_true rfl) (Nat.le_of_ble_eq_true rfl) dX2_reckon_96 rfl (fun s3 h3 => ?_)
      have G_miscounted := ax_kS h3
      have G_o := ax_kN h3 G_o (by omega)
      have G_asTold := ax_kN h3 G_asTold (by omega)
      refine ax_iinc1 (pc' := 102) rfl rfl (Nat.le_of_ble_eq_true rfl) dX2_reckon_99 rfl ?_
      refine ax_goto (tgt := 10) dX2_reckon_102 (by decide) ?_
      refine ih (i + 1) _ _ s3 _ _ _ (by omega) G_o G_asTold G_miscounted (fun j hj => ?_) ((hF.up h2 (by omega) (by omega)).up h3 (by omega) (by omega))
      by_cases e : j = i
      · subst e
        simp only [upd, if_true]
        exact ⟨rfl, rfl⟩
      · simp only [upd, e, if_false]
        exact hv j (by omega)
  exact K rs.length 0 f g s1 _ _ _ (Nat.zero_add _) G_o G_asTold G_miscounted (fun j hj => absurd hj (Nat.not_lt_zero _)) hF
theorem sp_en_ne {o : Option Nat} (ho : ∀ m, o = some m → m ≤ 5000000) : o ≠ none → ¬ sp_en o = (-4 : Int32) := by
  intro h
  cases o with
  | none => exact absurd rfl h
  | some m =>
    have := ho m rfl
    exact nI_ne4 (by omega)
theorem c_meanOf {σ : ax_S} {ms sh : Nat} {rs : List sp_rep} {b : sp_B} (hG : gi_At σ.1 b rs) (hb : sp_ok b) (hk : bk_ok b rs) (hms : ms < 512) (hsh : sh < 512) : ax_R mX2_meanOf 1 [.ref 37, .int (nI ms), .int (nI sh)] σ (.int (sp_en (sp_mean (sp_sel b rs ms sh) rs.length))) := by
  obtain ⟨f, g, G_o, G_asTold, G_miscounted, hv⟩ := hG
  have h9 := hk.1
  have hsel : ∀ i m, i < rs.length → sp_sel b rs ms sh i = some m → m ≤ 4309200 := fun i m hi h => sp_sel_le hb hk hi h
  refine ax_N.of (ls := [some (.ref 37), some (.int (nI ms)), some (.int (nI sh)), none, none, none, none, none]) (by decide +kernel) rfl (Nat.le_of_ble_eq_true rfl) ?_
  refine ax_iconst (pc' := 1) (v := (nI 0)) kc_0 dX2_meanOf_0 rfl ?_
  refine ax_istore_n (pc' := 2) rfl (Nat.le_of_ble_eq_true rfl) dX2_meanOf_1 rfl ?_
  refine ax_iconst (pc' := 3) (v := (nI 0)) kc_0 dX2_meanOf_2 rfl ?_
  refine ax_istore (pc' := 5) rfl (Nat.le_of_ble_eq_true rfl) dX2_meanOf_3 rfl ?_
  refine ax_iconst (pc' := 6) (v := (nI 0)) kc_0 dX2_meanOf_5 rfl ?_
  refine ax_istore (pc' := 8) rfl (Nat.le_of_ble_eq_true rfl) dX2_meanOf_6 rfl ?_
  have K : ∀ m i (z6 z7 : Option Value), i + m = rs.length → ax_J (mX2_meanOf, 1, 0, 0) 0 0 8 [some (.ref 37), some (.int (nI ms)), some (.int (nI sh)), some (.int (nI (sp_sum (sp_sel b rs ms sh) i))), some (.int (nI (sp_cnt (sp_sel b rs ms sh) i))), some (.int (nI i)), z6, z7] [] σ (fun r σ' => r = some (.int (sp_en (sp_mean (sp_sel b rs ms sh) rs.length))) ∧ σ' = σ) := by
    intro m
    induction m with
    | zero =>
      intro i z6 z7 hi
      have hi : i = rs.length := hi
      subst hi
      obtain ⟨l1, l2⟩ := sp_sum_le hsel
      have l3 : sp_sum (sp_sel b rs ms sh) rs.length ≤ 4309200 * 9 := Nat.le_trans l1 (Nat.mul_le_mul_left _ (by omega))
      refine ax_iload (pc' := 10) rfl dX2_meanOf_8 rfl ?_
      refine ax_aload_n (pc' := 11) rfl dX2_meanOf_10 rfl ?_
      refine ax_getf (pc' := 14) fl_X2_18 G_o rfl dX2_meanOf_11 rfl ?_
      refine ax_icmp_ge (pc' := 17) (tgt := 81) dX2_meanOf_14 (by decide) rfl (fun _ => ?_) (fun hz => absurd (nI_le (Nat.le_refl _) (by omega)) hz)
      refine ax_iload (pc' := 83) rfl dX2_meanOf_81 rfl ?_
      by_cases h0 : sp_cnt (sp_sel b rs ms sh) rs.length = 0
      · refine ax_if_le (pc' := 86) (tgt := 93) dX2_meanOf_83 (by decide) rfl (fun _ => ?_) (fun hz => absurd (by rw [h0]; decide) hz)
        refine ax_bipush (pc' := 95) (v := (-4)) kb_m4 dX2_meanOf_93 rfl ?_
        exact ax_iret dX2_meanOf_95 rfl (Nat.le_of_ble_eq_true rfl) (Nat.le_of_ble_eq_true rfl) (⟨by simp only [sp_mean, h0, if_true, sp_en], rfl⟩)
      · refine ax_if_le (pc' := 86) (tgt := 93) dX2_meanOf_83 (by decide) rfl (fun hz => absurd hz (nI_nle (by omega) (by omega))) (fun _ => ?_)
        refine ax_iload_n (pc' := 87) rfl dX2_meanOf_86 rfl ?_
        refine ax_iload (pc' := 89) rfl dX2_meanOf_87 rfl ?_
        refine ax_idiv (pc' := 90) (nI_ne0 (by omega) (by omega)) dX2_meanOf_89 rfl ?_
        refine ax_topi (pk_div (by omega) (by omega) (by omega)) ?_
        refine ax_goto (tgt := 95) dX2_meanOf_90 (by decide) ?_
        exact ax_iret dX2_meanOf_95 rfl (Nat.le_of_ble_eq_true rfl) (Nat.le_of_ble_eq_true rfl) (⟨by simp only [sp_mean, h0, if_false, sp_en], rfl⟩)
    | succ m ih =>
      intro i z6 z7 hi
      have hil : i < rs.length := by omega
      obtain ⟨e1, e2⟩ := hv i hil
      obtain ⟨-, -, -, hq⟩ := hk.2 i hil
      obtain ⟨b1, b2⟩ := sp_bit_ok ms hms i (by omega)
      obtain ⟨b3, b4⟩ := sp_bit_ok sh hsh i (by omega)
      refine ax_iload (pc' := 10) rfl dX2_meanOf_8 rfl ?_
      refine ax_aload_n (pc' := 11) rfl dX2_meanOf_10 rfl ?_
      refine ax_getf (pc' := 14) fl_X2_18 G_o rfl dX2_meanOf_11 rfl ?_
      refine ax_icmp_ge (pc' := 17) (tgt := 81) dX2_meanOf_14 (by decide) rfl (fun hz => absurd hz (nI_ge hil (by omega))) (fun _ => ?_)
      refine ax_iconst (pc' := 18) (v := (nI 1)) kc_1 dX2_meanOf_17 rfl ?_
      refine ax_iload (pc' := 20) rfl dX2_meanOf_18 rfl ?_
      refine ax_ishl (pc' := 21) dX2_meanOf_20 rfl ?_
      refine ax_istore (pc' := 23) rfl (Nat.le_of_ble_eq_true rfl) dX2_meanOf_21 rfl ?_
      refine ax_iload_n (pc' := 24) rfl dX2_meanOf_23 rfl ?_
      refine ax_iload (pc' := 26) rfl dX2_meanOf_24 rfl ?_
      refine ax_iand (pc' := 27) dX2_meanOf_26 rfl ?_
      have NX : ∀ z : Option Value, sp_sel b rs ms sh i = none → ax_J (mX2_meanOf, 1, 0, 0) 0 0 75 [some (.ref 37), some (.int (nI ms)), some (.int (nI sh)), some (.int (nI (sp_sum (sp_sel b rs ms sh) i))), some (.int (nI (sp_cnt (sp_sel b rs ms sh) i))), some (.int (nI i)), some (.int (nI 1 <<< (nI i &&& 31))), z] [] σ (fun r σ' => r = some (.int (sp_en (sp_mean (sp_sel b rs ms sh) rs.length))) ∧ σ' = σ) := by
        intro z hn
        refine ax_iinc1 (pc' := 78) rfl rfl (Nat.le_of_ble_eq_true rfl) dX2_meanOf_75 rfl ?_
        refine ax_goto (tgt := 8) dX2_meanOf_78 (by decide) ?_
        have := ih (i + 1) (some (.int (nI 1 <<< (nI i &&& 31)))) z (by omega)
        simp only [sp_sum, sp_cnt, hn, Option.getD_none, Option.isSome_none, Bool.false_eq_true, if_false, Nat.add_zero] at this
        exact this
      have K2 : ∀ o : Option Nat, o = (if sp_has sh i then sp_gm b (sp_at rs i) else sp_gb b (sp_at rs i)) → ax_J (mX2_meanOf, 1, 0, 0) 0 0 51 [some (.ref 37), some (.int (nI ms)), some (.int (nI sh)), some (.int (nI (sp_sum (sp_sel b rs ms sh) i))), some (.int (nI (sp_cnt (sp_sel b rs ms sh) i))), some (.int (nI i)), some (.int (nI 1 <<< (nI i &&& 31))), z7] [.int (sp_en o)] σ (fun r σ' => r = some (.int (sp_en (sp_mean (sp_sel b rs ms sh) rs.length))) ∧ σ' = σ) := by
        intro o ho
        have hsi : sp_sel b rs ms sh i = if sp_has ms i then o else none := by rw [ho]; rfl
        refine ax_istore (pc' := 53) rfl (Nat.le_of_ble_eq_true rfl) dX2_meanOf_51 rfl ?_
        refine ax_iload_n (pc' := 54) rfl dX2_meanOf_53 rfl ?_
        refine ax_iload (pc' := 56) rfl dX2_meanOf_54 rfl ?_
        refine ax_iand (pc' := 57) dX2_meanOf_56 rfl ?_
        by_cases hm1 : sp_has ms i = true
        · rw [if_pos hm1] at hsi
          refine ax_if_eq (pc' := 60) (tgt := 75) dX2_meanOf_57 (by decide) rfl (fun hz => absurd hz (b1 hm1)) (fun _ => ?_)
          refine ax_iload (pc' := 62) rfl dX2_meanOf_60 rfl ?_
          refine ax_bipush (pc' := 64) (v := (-4)) kb_m4 dX2_meanOf_62 rfl ?_
          cases o with
          | none =>
            refine ax_icmp_eq (pc' := 67) (tgt := 75) dX2_meanOf_64 (by decide) rfl (fun _ => ?_) (fun hz => absurd (rfl) hz)
            exact NX _ hsi
          | some x =>
            have hx := hsel i x hil hsi
            refine ax_icmp_eq (pc' := 67) (tgt := 75) dX2_meanOf_64 (by decide) rfl (fun hz => absurd hz (nI_ne4 (by omega))) (fun _ => ?_)
            refine ax_iload_n (pc' := 68) rfl dX2_meanOf_67 rfl ?_
            refine ax_iload (pc' := 70) rfl dX2_meanOf_68 rfl ?_
            refine ax_iadd (pc' := 71) dX2_meanOf_70 rfl ?_
            refine ax_topi (nI_add _ x) ?_
            refine ax_istore_n (pc' := 72) rfl (Nat.le_of_ble_eq_true rfl) dX2_meanOf_71 rfl ?_
            refine ax_iinc1 (pc' := 75) rfl rfl (Nat.le_of_ble_eq_true rfl) dX2_meanOf_72 rfl ?_
            refine ax_iinc1 (pc' := 78) rfl rfl (Nat.le_of_ble_eq_true rfl) dX2_meanOf_75 rfl ?_
            refine ax_goto (tgt := 8) dX2_meanOf_78 (by decide) ?_
            have := ih (i + 1) (some (.int (nI 1 <<< (nI i &&& 31)))) (some (.int (nI x))) (by omega)
            simp only [sp_sum, sp_cnt, hsi, Option.getD_some, Option.isSome_some, if_true] at this
            exact this
        · have hm2 : sp_has ms i = false := by simpa using hm1
          rw [if_neg hm1] at hsi
          refine ax_if_eq (pc' := 60) (tgt := 75) dX2_meanOf_57 (by decide) rfl (fun _ => ?_) (fun hz => absurd (b2 hm2) hz)
          exact NX _ hsi
      by_cases hs1 : sp_has sh i = true
      · refine ax_if_eq (pc' := 30) (tgt := 42) dX2_meanOf_27 (by decide) rfl (fun hz => absurd hz (b3 hs1)) (fun _ => ?_)
        refine ax_aload_n (pc' := 31) rfl dX2_meanOf_30 rfl ?_
        refine ax_getf (pc' := 34) fl_X2_15 G_o rfl dX2_meanOf_31 rfl ?_
        refine ax_iload (pc' := 36) rfl dX2_meanOf_34 rfl ?_
        refine ax_callSR (pc' := 39) ls_X2_28 (c_at G_miscounted (by omega) (by decide)) rfl rfl (Nat.le_of_ble_eq_true rfl) (Nat.le_of_ble_eq_true rfl) dX2_meanOf_36 rfl ?_
        refine ax_goto (tgt := 51) dX2_meanOf_39 (by decide) ?_
        rw [e2]
        exact K2 _ (by rw [if_pos hs1])
      · have hs2 : sp_has sh i = false := by simpa using hs1
        refine ax_if_eq (pc' := 30) (tgt := 42) dX2_meanOf_27 (by decide) rfl (fun _ => ?_) (fun hz => absurd (b4 hs2) hz)
        refine ax_aload_n (pc' := 43) rfl dX2_meanOf_42 rfl ?_
        refine ax_getf (pc' := 46) fl_X2_9 G_o rfl dX2_meanOf_43 rfl ?_
        refine ax_iload (pc' := 48) rfl dX2_meanOf_46 rfl ?_
        refine ax_callSR (pc' := 51) ls_X2_28 (c_at G_asTold (by omega) (by decide)) rfl rfl (Nat.le_of_ble_eq_true rfl) (Nat.le_of_ble_eq_true rfl) dX2_meanOf_48 rfl ?_
        rw [e1]
        exact K2 _ (by rw [if_neg hs1])
  exact K rs.length 0 none none (Nat.zero_add _)
