/-! ===== THE TEXT ===== -/
def sp_lt (n : Nat) (tx : Nat → Nat) (i : Nat) : Nat := if i < n then tx i else 0
def sp_dig (c : Nat) : Bool := decide (48 ≤ c ∧ c ≤ 57)
/-- a number of one or two figures from place i on, and the place behind it -/
def sp_rn (n : Nat) (tx : Nat → Nat) (i : Nat) : Option Nat × Nat :=
  if sp_dig (sp_lt n tx i) then (if sp_dig (sp_lt n tx (i + 1)) then (some (10 * (sp_lt n tx i - 48) + (sp_lt n tx (i + 1) - 48)), i + 2) else (some (sp_lt n tx i - 48), i + 1)) else (none, i)
/-- r numbers, parted by , with ; behind the last -/
def sp_nums (n : Nat) (tx : Nat → Nat) : Nat → Nat → Option (List Nat × Nat)
  | 0, i => some ([], i)
  | r + 1, i => match sp_rn n tx i with
    | (none, _) => none
    | (some v, j) => if sp_lt n tx j = (if r = 0 then 59 else 44) then (sp_nums n tx r (j + 1)).map (fun q => (v :: q.1, q.2)) else none
def sp_take (n : Nat) (tx : Nat → Nat) (i : Nat) (b : sp_B) : Option (sp_B × Nat) :=
  match sp_nums n tx (sp_want (sp_lt n tx i)) (i + 1) with
  | none => none
  | some q => (sp_item b (sp_lt n tx i) (q.1.getD 0 0) (q.1.getD 1 0) (q.1.getD 2 0)).map (fun b' => (b', q.2))
/-- reading from place i on: the first fault, or the ball -/
def sp_pa (n : Nat) (tx : Nat → Nat) : Nat → Nat → sp_B → Nat ⊕ sp_B
  | 0, _, b => .inr b
  | f + 1, i, b => if i < n then (match sp_take n tx i b with | none => .inl i | some q => sp_pa n tx f q.2 q.1) else .inr b
def sp_tok (n : Nat) (tx : Nat → Nat) : Prop := n ≤ 200 ∧ ∀ i, tx i ≤ 126
theorem sp_lt_le {n : Nat} {tx : Nat → Nat} (h : sp_tok n tx) (i : Nat) : sp_lt n tx i ≤ 126 := by
  unfold sp_lt
  split
  · exact h.2 i
  · omega
def pa_At (h : ax_H) (n : Nat) (tx : Nat → Nat) : Prop := ∃ f : Nat → Int32, h 1 = some (.inr (3, [.ref 2, .int (nI n)])) ∧ h 2 = some (.inl (false, 200, f)) ∧ ∀ i, i < n → f i = nI (tx i)
theorem c_letterAt {σ : ax_S} {n i : Nat} {tx : Nat → Nat} (hP : pa_At σ.1 n tx) (hn : n ≤ 200) (hi : i < 2 ^ 31) : ax_R mX3_letterAt 1 [.ref 1, .int (nI i)] σ (.int (nI (sp_lt n tx i))) := by
  obtain ⟨f, P_o, P_letters, hf⟩ := hP
  refine ax_N.of (ls := [some (.ref 1), some (.int (nI i))]) (by decide +kernel) rfl (Nat.le_of_ble_eq_true rfl) ?_
  refine ax_iload_n (pc' := 1) rfl dX3_letterAt_0 rfl ?_
  refine ax_aload_n (pc' := 2) rfl dX3_letterAt_1 rfl ?_
  refine ax_getf (pc' := 5) fl_X3_15 P_o rfl dX3_letterAt_2 rfl ?_
  by_cases h : i < n
  · refine ax_icmp_ge (pc' := 8) (tgt := 19) dX3_letterAt_5 (by decide) rfl (fun hz => absurd hz (nI_ge h (by omega))) (fun _ => ?_)
    refine ax_aload_n (pc' := 9) rfl dX3_letterAt_8 rfl ?_
    refine ax_getf (pc' := 12) fl_X3_9 P_o rfl dX3_letterAt_9 rfl ?_
    refine ax_iload_n (pc' := 13) rfl dX3_letterAt_12 rfl ?_
    refine ax_callSR (pc' := 16) ls_X3_23 (c_at P_letters (by omega) (by decide)) rfl rfl (Nat.le_of_ble_eq_true rfl) (Nat.le_of_ble_eq_true rfl) dX3_letterAt_13 rfl ?_
    refine ax_goto (tgt := 20) dX3_letterAt_16 (by decide) ?_
    exact ax_iret dX3_letterAt_20 rfl (Nat.le_of_ble_eq_true rfl) (Nat.le_of_ble_eq_true rfl) (⟨by rw [hf i h, sp_lt, if_pos h], rfl⟩)
  · refine ax_icmp_ge (pc' := 8) (tgt := 19) dX3_letterAt_5 (by decide) rfl (fun _ => ?_) (fun hz => absurd (nI_le (by omega) hi) hz)
    refine ax_iconst (pc' := 20) (v := (nI 0)) kc_0 dX3_letterAt_19 rfl ?_
    exact ax_iret dX3_letterAt_20 rfl (Nat.le_of_ble_eq_true rfl) (Nat.le_of_ble_eq_true rfl) (⟨by rw [sp_lt, if_neg h], rfl⟩)
theorem c_append {σ : ax_S} {n c : Nat} {tx : Nat → Nat} (hP : pa_At σ.1 n tx) (hn : n < 200) : ax_N mX3_append 1 0 0 [.ref 1, .int (nI c)] σ (fun r τ => r = none ∧ pa_At τ.1 (n + 1) (sp_up tx n c) ∧ ax_fr 1 2 σ τ) := by
  obtain ⟨f, P_o, P_letters, hf⟩ := hP
  refine ax_N.of (ls := [some (.ref 1), some (.int (nI c))]) (by decide +kernel) rfl (Nat.le_of_ble_eq_true rfl) ?_
  refine ax_aload_n (pc' := 1) rfl dX3_append_0 rfl ?_
  refine ax_getf (pc' := 4) fl_X3_15 P_o rfl dX3_append_1 rfl ?_
  refine ax_sipush (pc' := 7) (v := (nI 200)) ks_200 dX3_append_4 rfl ?_
  refine ax_icmp_ge (pc' := 10) (tgt := 32) dX3_append_7 (by decide) rfl (fun hz => absurd hz (nI_ge hn (by decide))) (fun _ => ?_)
  refine ax_aload_n (pc' := 11) rfl dX3_append_10 rfl ?_
  refine ax_getf (pc' := 14) fl_X3_9 P_o rfl dX3_append_11 rfl ?_
  refine ax_aload_n (pc' := 15) rfl dX3_append_14 rfl ?_
  refine ax_getf (pc' := 18) fl_X3_15 P_o rfl dX3_append_15 rfl ?_
  refine ax_iload_n (pc' := 19) rfl dX3_append_18 rfl ?_
  refine ax_callSU (pc' := 22) ls_X3_19 (c_put P_letters hn (by decide)) rfl rfl (Nat.le_of_ble_eq_true rfl) (Nat.le_of_ble_eq_true rfl) dX3_append_19 rfl (fun s1 h1 => ?_)
  have P_letters := ax_kS h1
  have P_o := ax_kN h1 P_o (by omega)
  refine ax_aload_n (pc' := 23) rfl dX3_append_22 rfl ?_
  refine ax_dup (pc' := 24) rfl dX3_append_23 rfl ?_
  refine ax_getf (pc' := 27) fl_X3_15 P_o rfl dX3_append_24 rfl ?_
  refine ax_iconst (pc' := 28) (v := (nI 1)) kc_1 dX3_append_27 rfl ?_
  refine ax_iadd (pc' := 29) dX3_append_28 rfl ?_
  refine ax_topi (nI_add _ 1) ?_
  refine ax_putu (pc' := 32) fp_X3_15 P_o rfl (fun _ => ⟨rfl, rfl⟩) dX3_append_29 rfl (fun s2 h2 => ?_)
  have P_o := ax_kS h2
  have P_letters := ax_kN h2 P_letters (by omega)
  refine ax_vret dX3_append_32 rfl (Nat.le_refl 0) (Nat.le_refl 0) ⟨rfl, ⟨_, P_o, P_letters, fun i hi => ?_⟩, (ax_fr.rf.up h1 (by omega) (by omega)).up h2 (by omega) (by omega)⟩
  by_cases e : i = n
  · simp [upd, sp_up, e]
  · simp only [upd, sp_up, e, if_false]
    exact hf i (by omega)
theorem c_Paper_clear {σ : ax_S} {n : Nat} {tx : Nat → Nat} (hP : pa_At σ.1 n tx) : ax_N mX3_clear 0 0 0 [.ref 1] σ (fun r τ => r = none ∧ pa_At τ.1 0 tx ∧ ax_fr 1 2 σ τ) := by
  obtain ⟨f, P_o, P_letters, hf⟩ := hP
  refine ax_N.of (ls := [some (.ref 1)]) (by decide +kernel) rfl (Nat.le_of_ble_eq_true rfl) ?_
  refine ax_aload_n (pc' := 1) rfl dX3_clear_0 rfl ?_
  refine ax_iconst (pc' := 2) (v := (nI 0)) kc_0 dX3_clear_1 rfl ?_
  refine ax_putu (pc' := 5) fp_X3_15 P_o rfl (fun _ => ⟨rfl, rfl⟩) dX3_clear_2 rfl (fun s2 h2 => ?_)
  have P_o := ax_kS h2
  have P_letters := ax_kN h2 P_letters (by omega)
  exact ax_vret dX3_clear_5 rfl (Nat.le_of_ble_eq_true rfl) (Nat.le_of_ble_eq_true rfl) (⟨rfl, ⟨_, P_o, P_letters, fun i hi => by omega⟩, ax_fr.rf.up h2 (by omega) (by omega)⟩)
/-! ===== Reader ===== -/
def rd_At (h : ax_H) (i : Nat) (f : Nat → Int32) : Prop := h 3 = some (.inr (4, [.ref 4, .int (nI i)])) ∧ h 4 = some (.inl (false, 3, f))
/-- the reader's cells and the ball's, and no others, may have changed -/
def rd_fr (p : Nat) (σ τ : ax_S) : Prop := τ.2 = σ.2 ∧ ∀ q, q ≠ 3 → q ≠ 4 → (q < p ∨ p + 8 ≤ q) → τ.1 q = σ.1 q
theorem rd_fr.rf {p : Nat} {σ : ax_S} : rd_fr p σ σ := ⟨rfl, fun _ _ _ _ => rfl⟩
theorem rd_fr.up {p a : Nat} {c : ax_C} {ρ σ τ : ax_S} (h : rd_fr p ρ σ) (hτ : τ = (ax_up σ.1 a c, σ.2)) (h1 : a = 3 ∨ a = 4) : rd_fr p ρ τ :=
  ⟨(ax_k2 hτ).trans h.1, fun q a1 a2 a3 => (ax_kF hτ (by omega)).trans (h.2 q a1 a2 a3)⟩
theorem rd_fr.tr {p : Nat} {ρ σ τ : ax_S} (h : rd_fr p ρ σ) (h' : ax_fr p 8 σ τ) : rd_fr p ρ τ := ⟨h'.1.trans h.1, fun q a1 a2 a3 => (h'.2 q a3).trans (h.2 q a1 a2 a3)⟩
theorem rd_fr.tr2 {p : Nat} {ρ σ τ : ax_S} (h : rd_fr p ρ σ) (h' : rd_fr p σ τ) : rd_fr p ρ τ := ⟨h'.1.trans h.1, fun q a1 a2 a3 => (h'.2 q a1 a2 a3).trans (h.2 q a1 a2 a3)⟩
theorem pa_At.rd {σ τ : ax_S} {p n : Nat} {tx : Nat → Nat} (hP : pa_At σ.1 n tx) (h : rd_fr p σ τ) (hp : 5 ≤ p) : pa_At τ.1 n tx := by
  obtain ⟨f, h1, h2, h3⟩ := hP
  exact ⟨f, (h.2 1 (by omega) (by omega) (by omega)).trans h1, (h.2 2 (by omega) (by omega) (by omega)).trans h2, h3⟩
theorem pa_At.fr {σ τ : ax_S} {p k n : Nat} {tx : Nat → Nat} (hP : pa_At σ.1 n tx) (h : ax_fr p k σ τ) (hp : 3 ≤ p) : pa_At τ.1 n tx := by
  obtain ⟨f, h1, h2, h3⟩ := hP
  exact ⟨f, h.at h1 (by omega), h.at h2 (by omega), h3⟩
theorem bl_Aw.up {σ τ : ax_S} {p a m : Nat} {c : ax_C} {b : sp_B} {fr : Nat → Int32} (hB : bl_Aw σ.1 p b fr) (h : τ = (ax_up σ.1 a c, m)) (ha : a < p ∨ p + 8 ≤ a) : bl_Aw τ.1 p b fr := by
  obtain ⟨fl, fn, fb, fk, fp, fu, B_o, B_lies, B_leans, B_bends, B_roads, B_kinds, B_paces, B_units, r⟩ := hB
  exact ⟨fl, fn, fb, fk, fp, fu, ax_kN h B_o (by omega), ax_kN h B_lies (by omega), ax_kN h B_leans (by omega), ax_kN h B_bends (by omega), ax_kN h B_roads (by omega), ax_kN h B_kinds (by omega), ax_kN h B_paces (by omega), ax_kN h B_units (by omega), r⟩
theorem pa_At.up {σ τ : ax_S} {a m n : Nat} {c : ax_C} {tx : Nat → Nat} (hP : pa_At σ.1 n tx) (h : τ = (ax_up σ.1 a c, m)) (ha : 3 ≤ a) : pa_At τ.1 n tx := by
  obtain ⟨f, h1, h2, h3⟩ := hP
  exact ⟨f, ax_kN h h1 (by omega), ax_kN h h2 (by omega), h3⟩
theorem c_numbersBehind {σ : ax_S} {ch : Nat} (hc : ch < 128) : ax_R mX4_numbersBehind 0 [.int (nI ch)] σ (.int (nI (sp_want ch))) := by
  refine ax_N.of (ls := [some (.int (nI ch))]) (by decide +kernel) rfl (Nat.le_of_ble_eq_true rfl) ?_
  refine ax_iload_n (pc' := 1) rfl dX4_numbersBehind_0 rfl ?_
  by_cases c1 : ch = 103
  · subst c1
    refine ax_look (off := 43) (tgt := 44) dX4_numbersBehind_1 (by decide) (by decide) (by decide) ?_
    refine ax_iconst (pc' := 45) (v := (nI 1)) kc_1 dX4_numbersBehind_44 rfl ?_
    exact ax_iret dX4_numbersBehind_45 rfl (Nat.le_of_ble_eq_true rfl) (Nat.le_of_ble_eq_true rfl) (⟨rfl, rfl⟩)
  by_cases c2 : ch = 116
  · subst c2
    refine ax_look (off := 45) (tgt := 46) dX4_numbersBehind_1 (by decide) (by decide) (by decide) ?_
    refine ax_iconst (pc' := 47) (v := (nI 2)) kc_2 dX4_numbersBehind_46 rfl ?_
    exact ax_iret dX4_numbersBehind_47 rfl (Nat.le_of_ble_eq_true rfl) (Nat.le_of_ble_eq_true rfl) (⟨rfl, rfl⟩)
  by_cases c3 : ch = 114
  · subst c3
    refine ax_look (off := 47) (tgt := 48) dX4_numbersBehind_1 (by decide) (by decide) (by decide) ?_
    refine ax_iconst (pc' := 49) (v := (nI 3)) kc_3 dX4_numbersBehind_48 rfl ?_
    exact ax_iret dX4_numbersBehind_49 rfl (Nat.le_of_ble_eq_true rfl) (Nat.le_of_ble_eq_true rfl) (⟨rfl, rfl⟩)
  by_cases c4 : ch = 119
  · subst c4
    refine ax_look (off := 49) (tgt := 50) dX4_numbersBehind_1 (by decide) (by decide) (by decide) ?_
    refine ax_iconst (pc' := 51) (v := (nI 3)) kc_3 dX4_numbersBehind_50 rfl ?_
    exact ax_iret dX4_numbersBehind_51 rfl (Nat.le_of_ble_eq_true rfl) (Nat.le_of_ble_eq_true rfl) (⟨rfl, rfl⟩)
  · have ne : ∀ k : Nat, k < 128 → ch ≠ k → ¬ nI ch = nI k := fun k hk h e => h ((nI_eq (by omega) (by omega)).mp e)
    refine ax_look (off := 51) (tgt := 52) dX4_numbersBehind_1 (by decide) ?_ (by decide) ?_
    · show Op.lookupswitch.offset [(103, 43), (114, 47), (116, 45), (119, 49)] 51 (nI ch).toInt = 51
      rw [lv_osw (ne 103 (by decide) c1) (by decide), lv_osw (ne 114 (by decide) c3) (by decide), lv_osw (ne 116 (by decide) c2) (by decide), lv_osw (ne 119 (by decide) c4) (by decide)]
      rfl
    refine ax_iconst (pc' := 53) (v := (nI 0)) kc_0 dX4_numbersBehind_52 rfl ?_
    exact ax_iret dX4_numbersBehind_53 rfl (Nat.le_of_ble_eq_true rfl) (Nat.le_of_ble_eq_true rfl) (⟨by simp [sp_want, c1, c2, c3, c4], rfl⟩)
/-- a figure, as the class takes it -/
theorem c_figT {σ : ax_S} {c : Nat} (h : sp_dig c = true) : ax_R mX7_within 0 [.int (nI c - nI 48), .int (nI 0), .int (nI 9)] σ (.int (nI 1)) := by
  have h1 : 48 ≤ c ∧ c ≤ 57 := by simpa [sp_dig] using h
  rw [pk_sub h1.1]
  exact c_withinT (nI_le (by omega) (by omega)) (nI_le (by omega) (by omega))
theorem c_figF {σ : ax_S} {c : Nat} (hc : c ≤ 126) (h : ¬ sp_dig c = true) : ax_R mX7_within 0 [.int (nI c - nI 48), .int (nI 0), .int (nI 9)] σ (.int (nI 0)) := by
  have h1 : ¬ (48 ≤ c ∧ c ≤ 57) := by simpa [sp_dig] using h
  refine c_withinF (fun q => h1 ?_)
  obtain ⟨q1, q2⟩ := q
  rw [Int32.le_iff_toInt_le, pk_sub_toInt (by omega) (by omega), nI_toInt (by decide)] at q1 q2
  omega
theorem sp_dig_le {c : Nat} (h : sp_dig c = true) : 48 ≤ c ∧ c ≤ 57 := by simpa [sp_dig] using h
theorem c_readNumber {σ : ax_S} {n i : Nat} {tx : Nat → Nat} {f : Nat → Int32} (hT : sp_tok n tx) (hP : pa_At σ.1 n tx) (hR : rd_At σ.1 i f) (hi : i ≤ 1000) : ax_N mX4_readNumber 2 0 0 [.ref 3, .ref 1] σ (fun r τ => r = some (.int (sp_en (sp_rn n tx i).1)) ∧ rd_At τ.1 (sp_rn n tx i).2 f ∧ ∀ p, rd_fr p σ τ) := by
  have hc1 := sp_lt_le hT i
  have hc2 := sp_lt_le hT (i + 1)
  obtain ⟨R_o, R_numbers⟩ := hR
  have Pc := hP
  obtain ⟨pf, P_o, P_letters, hpf⟩ := hP
  refine ax_N.of (ls := [some (.ref 3), some (.ref 1), none, none, none]) (by decide +kernel) rfl (Nat.le_of_ble_eq_true rfl) ?_
  refine ax_bipush (pc' := 2) (v := (-4)) kb_m4 dX4_readNumber_0 rfl ?_
  refine ax_istore_n (pc' := 3) rfl (Nat.le_of_ble_eq_true rfl) dX4_readNumber_2 rfl ?_
  refine ax_iconst (pc' := 4) (v := (nI 0)) kc_0 dX4_readNumber_3 rfl ?_
  refine ax_istore_n (pc' := 5) rfl (Nat.le_of_ble_eq_true rfl) dX4_readNumber_4 rfl ?_
  refine ax_iload_n (pc' := 6) rfl dX4_readNumber_5 rfl ?_
  refine ax_iconst (pc' := 7) (v := (nI 2)) kc_2 dX4_readNumber_6 rfl ?_
  refine ax_icmp_ge (pc' := 10) (tgt := 71) dX4_readNumber_7 (by decide) rfl (fun hz => absurd hz ((by decide))) (fun _ => ?_)
  refine ax_aload_n (pc' := 11) rfl dX4_readNumber_10 rfl ?_
  refine ax_aload_n (pc' := 12) rfl dX4_readNumber_11 rfl ?_
  refine ax_getf (pc' := 15) fl_X4_15 R_o rfl dX4_readNumber_12 rfl ?_
  refine ax_callVR (pc' := 18) lv_X4_36 (c_letterAt Pc hT.1 (by omega)) P_o rfl rfl (Nat.le_of_ble_eq_true rfl) (Nat.le_of_ble_eq_true rfl) dX4_readNumber_15 rfl ?_
  refine ax_bipush (pc' := 20) (v := (nI 48)) kb_48 dX4_readNumber_18 rfl ?_
  refine ax_isub (pc' := 21) dX4_readNumber_20 rfl ?_
  refine ax_istore (pc' := 23) rfl (Nat.le_of_ble_eq_true rfl) dX4_readNumber_21 rfl ?_
  refine ax_iload (pc' := 25) rfl dX4_readNumber_23 rfl ?_
  refine ax_iconst (pc' := 26) (v := (nI 0)) kc_0 dX4_readNumber_25 rfl ?_
  refine ax_bipush (pc' := 28) (v := (nI 9)) kb_9 dX4_readNumber_26 rfl ?_
  by_cases d1 : sp_dig (sp_lt n tx i) = true
  · have e1 := sp_dig_le d1
    refine ax_callSR (pc' := 31) ls_X4_59 (c_figT d1) rfl rfl (Nat.le_of_ble_eq_true rfl) (Nat.le_of_ble_eq_true rfl) dX4_readNumber_28 rfl ?_
    refine ax_if_ne (pc' := 34) (tgt := 36) dX4_readNumber_31 (by decide) rfl (fun _ => ?_) (fun hz => absurd hz (kz_1))
    refine ax_iload_n (pc' := 37) rfl dX4_readNumber_36 rfl ?_
    refine ax_bipush (pc' := 39) (v := (-4)) kb_m4 dX4_readNumber_37 rfl ?_
    refine ax_icmp_ne (pc' := 42) (tgt := 47) dX4_readNumber_39 (by decide) rfl (fun hz => absurd ((by decide)) hz) (fun _ => ?_)
    refine ax_iload (pc' := 44) rfl dX4_readNumber_42 rfl ?_
    refine ax_goto (tgt := 54) dX4_readNumber_44 (by decide) ?_
    refine ax_topi (pk_sub e1.1) ?_
    refine ax_istore_n (pc' := 55) rfl (Nat.le_of_ble_eq_true rfl) dX4_readNumber_54 rfl ?_
    refine ax_aload_n (pc' := 56) rfl dX4_readNumber_55 rfl ?_
    refine ax_dup (pc' := 57) rfl dX4_readNumber_56 rfl ?_
    refine ax_getf (pc' := 60) fl_X4_15 R_o rfl dX4_readNumber_57 rfl ?_
    refine ax_iconst (pc' := 61) (v := (nI 1)) kc_1 dX4_readNumber_60 rfl ?_
    refine ax_iadd (pc' := 62) dX4_readNumber_61 rfl ?_
    refine ax_topi (nI_add i 1) ?_
    refine ax_putu (pc' := 65) fp_X4_15 R_o rfl (fun _ => ⟨rfl, rfl⟩) dX4_readNumber_62 rfl (fun s1 h1 => ?_)
    have R_o := ax_kS h1
    have R_numbers := ax_kN h1 R_numbers (by omega)
    have P_o := ax_kN h1 P_o (by omega)
    have P_letters := ax_kN h1 P_letters (by omega)
    have Pc := Pc.up h1 (by omega)
    refine ax_iinc1 (pc' := 68) rfl rfl (Nat.le_of_ble_eq_true rfl) dX4_readNumber_65 rfl ?_
    refine ax_goto (tgt := 5) dX4_readNumber_68 (by decide) ?_
    refine ax_iload_n (pc' := 6) rfl dX4_readNumber_5 rfl ?_
    refine ax_iconst (pc' := 7) (v := (nI 2)) kc_2 dX4_readNumber_6 rfl ?_
    refine ax_icmp_ge (pc' := 10) (tgt := 71) dX4_readNumber_7 (by decide) rfl (fun hz => absurd hz ((by decide))) (fun _ => ?_)
    refine ax_aload_n (pc' := 11) rfl dX4_readNumber_10 rfl ?_
    refine ax_aload_n (pc' := 12) rfl dX4_readNumber_11 rfl ?_
    refine ax_getf (pc' := 15) fl_X4_15 R_o rfl dX4_readNumber_12 rfl ?_
    refine ax_callVR (pc' := 18) lv_X4_36 (c_letterAt Pc hT.1 (by omega)) P_o rfl rfl (Nat.le_of_ble_eq_true rfl) (Nat.le_of_ble_eq_true rfl) dX4_readNumber_15 rfl ?_
    refine ax_bipush (pc' := 20) (v := (nI 48)) kb_48 dX4_readNumber_18 rfl ?_
    refine ax_isub (pc' := 21) dX4_readNumber_20 rfl ?_
    refine ax_istore (pc' := 23) rfl (Nat.le_of_ble_eq_true rfl) dX4_readNumber_21 rfl ?_
    refine ax_iload (pc' := 25) rfl dX4_readNumber_23 rfl ?_
    refine ax_iconst (pc' := 26) (v := (nI 0)) kc_0 dX4_readNumber_25 rfl ?_
    refine ax_bipush (pc' := 28) (v := (nI 9)) kb_9 dX4_readNumber_26 rfl ?_
    by_cases d2 : sp_dig (sp_lt n tx (i + 1)) = true
    · have e2 := sp_dig_le d2
      refine ax_callSR (pc' := 31) ls_X4_59 (c_figT d2) rfl rfl (Nat.le_of_ble_eq_true rfl) (Nat.le_of_ble_eq_true rfl) dX4_readNumber_28 rfl ?_
      refine ax_if_ne (pc' := 34) (tgt := 36) dX4_readNumber_31 (by decide) rfl (fun _ => ?_) (fun hz => absurd hz (kz_1))
      refine ax_iload_n (pc' := 37) rfl dX4_readNumber_36 rfl ?_
      refine ax_bipush (pc' := 39) (v := (-4)) kb_m4 dX4_readNumber_37 rfl ?_
      refine ax_icmp_ne (pc' := 42) (tgt := 47) dX4_readNumber_39 (by decide) rfl (fun _ => ?_) (fun hz => absurd hz (nI_ne4 (by omega)))
      refine ax_bipush (pc' := 49) (v := (nI 10)) kb_10 dX4_readNumber_47 rfl ?_
      refine ax_iload_n (pc' := 50) rfl dX4_readNumber_49 rfl ?_
      refine ax_imul (pc' := 51) dX4_readNumber_50 rfl ?_
      refine ax_iload (pc' := 53) rfl dX4_readNumber_51 rfl ?_
      refine ax_topi (pk_sub e2.1) ?_
      refine ax_iadd (pc' := 54) dX4_readNumber_53 rfl ?_
      refine ax_topi (v' := nI (10 * (sp_lt n tx i - 48) + (sp_lt n tx (i + 1) - 48))) (by rw [pk_mul, nI_add]) ?_
      refine ax_istore_n (pc' := 55) rfl (Nat.le_of_ble_eq_true rfl) dX4_readNumber_54 rfl ?_
      refine ax_aload_n (pc' := 56) rfl dX4_readNumber_55 rfl ?_
      refine ax_dup (pc' := 57) rfl dX4_readNumber_56 rfl ?_
      refine ax_getf (pc' := 60) fl_X4_15 R_o rfl dX4_readNumber_57 rfl ?_
      refine ax_iconst (pc' := 61) (v := (nI 1)) kc_1 dX4_readNumber_60 rfl ?_
      refine ax_iadd (pc' := 62) dX4_readNumber_61 rfl ?_
      refine ax_topi (nI_add (i + 1) 1) ?_
      refine ax_putu (pc' := 65) fp_X4_15 R_o rfl (fun _ => ⟨rfl, rfl⟩) dX4_readNumber_62 rfl (fun s2 h2 => ?_)
      have R_o := ax_kS h2
      have R_numbers := ax_kN h2 R_numbers (by omega)
      refine ax_iinc1 (pc' := 68) rfl rfl (Nat.le_of_ble_eq_true rfl) dX4_readNumber_65 rfl ?_
      refine ax_goto (tgt := 5) dX4_readNumber_68 (by decide) ?_
      refine ax_iload_n (pc' := 6) rfl dX4_readNumber_5 rfl ?_
      refine ax_iconst (pc' := 7) (v := (nI 2)) kc_2 dX4_readNumber_6 rfl ?_
      refine ax_icmp_ge (pc' := 10) (tgt := 71) dX4_readNumber_7 (by decide) rfl (fun _ => ?_) (fun hz => absurd ((by decide)) hz)
      refine ax_iload_n (pc' := 72) rfl dX4_readNumber_71 rfl ?_
      exact ax_iret dX4_readNumber_72 rfl (Nat.le_of_ble_eq_true rfl) (Nat.le_of_ble_eq_true rfl) (⟨by simp only [sp_rn, d1, d2, if_true]; rfl, by simp only [sp_rn, d1, d2, if_true]; exact ⟨R_o, R_numbers⟩, fun p => (rd_fr.rf.up h1 (by omega)).up h2 (by omega)⟩)
    · refine ax_callSR (pc' := 31) ls_X4_59 (c_figF hc2 d2) rfl rfl (Nat.le_of_ble_eq_true rfl) (Nat.le_of_ble_eq_true rfl) dX4_readNumber_28 rfl ?_
      refine ax_if_ne (pc' := 34) (tgt := 36) dX4_readNumber_31 (by decide) rfl (fun hz => absurd (kz_0) hz) (fun _ => ?_)
      refine ax_iload_n (pc' := 35) rfl dX4_readNumber_34 rfl ?_
      exact ax_iret dX4_readNumber_35 rfl (Nat.le_of_ble_eq_true rfl) (Nat.le_of_ble_eq_true rfl) (⟨by simp only [sp_rn, d1, if_true, if_neg d2]; rfl, by simp only [sp_rn, d1, if_true, if_neg d2]; exact ⟨R_o, R_numbers⟩, fun p => rd_fr.rf.up h1 (by omega)⟩)
  · refine ax_callSR (pc' := 31) ls_X4_59 (c_figF hc1 d1) rfl rfl (Nat.le_of_ble_eq_true rfl) (Nat.le_of_ble_eq_true rfl) dX4_readNumber_28 rfl ?_
    refine ax_if_ne (pc' := 34) (tgt := 36) dX4_readNumber_31 (by decide) rfl (fun hz => absurd (kz_0) hz) (fun _ => ?_)
    refine ax_iload_n (pc' := 35) rfl dX4_readNumber_34 rfl ?_
    exact ax_iret dX4_readNumber_35 rfl (Nat.le_of_ble_eq_true rfl) (Nat.le_of_ble_eq_true rfl) (⟨by simp only [sp_rn, if_neg d1]; rfl, by simp only [sp_rn, if_neg d1]; exact ⟨R_o, R_numbers⟩, fun p => rd_fr.rf⟩)
theorem sp_rn_le {n : Nat} {tx : Nat → Nat} (i : Nat) : (sp_rn n tx i).2 ≤ i + 2 ∧ ∀ v, (sp_rn n tx i).1 = some v → v ≤ 99 := by
  unfold sp_rn
  split
  · rename_i d1
    have e1 := sp_dig_le d1
    split
    · rename_i d2
      have e2 := sp_dig_le d2
      exact ⟨Nat.le_refl _, fun v h => by cases h; omega⟩
    · exact ⟨by show i + 1 ≤ i + 2; omega, fun v h => by cases h; omega⟩
  · exact ⟨by show i ≤ i + 2; omega, fun v h => by cases h⟩
abbrev tk_Po (n : Nat) (tx : Nat → Nat) (i : Nat) (b : sp_B) (p : Nat) (σ : ax_S) : Option Value → ax_S → Prop := fun r τ => rd_fr p σ τ ∧ ((∃ b' e, sp_take n tx i b = some (b', e) ∧ i < e ∧ e ≤ i + 10 ∧ r = some (.int (nI 1)) ∧ (∃ fr, bl_Aw τ.1 p b' fr) ∧ ∃ f, rd_At τ.1 e f) ∨ (sp_take n tx i b = none ∧ r = some (.int (nI 0)) ∧ bl_Any τ.1 p ∧ ∃ e f, rd_At τ.1 e f))
theorem sp_want_le (ch : Nat) : sp_want ch ≤ 3 := by
  unfold sp_want
  repeat' split
  all_goals omega
theorem c_takesItem {σ : ax_S} {p n i : Nat} {tx : Nat → Nat} {f : Nat → Int32} {b : sp_B} {fr : Nat → Int32} (hT : sp_tok n tx) (hP : pa_At σ.1 n tx) (hR : rd_At σ.1 i f) (hp : 5 ≤ p) (hi : i ≤ 250) (hB : bl_Aw σ.1 p b fr) (hb : sp_ok b) : ax_N mX4_takesItem 4 0 0 [.ref 3, .ref 1, .ref p] σ (tk_Po n tx i b p σ) := by
  have hc1 := sp_lt_le hT i
  obtain ⟨R_o, R_numbers⟩ := hR
  have P_o : σ.1 1 = _ := hP.choose_spec.1
  refine ax_N.of (ls := [some (.ref 3), some (.ref 1), some (.ref p), none, none, none, none, none]) (by decide +kernel) rfl (Nat.le_of_ble_eq_true rfl) ?_
  refine ax_aload_n (pc' := 1) rfl dX4_takesItem_0 rfl ?_
  refine ax_aload_n (pc' := 2) rfl dX4_takesItem_1 rfl ?_
  refine ax_getf (pc' := 5) fl_X4_15 R_o rfl dX4_takesItem_2 rfl ?_
  refine ax_callVR (pc' := 8) lv_X4_36 (c_letterAt hP hT.1 (by omega)) P_o rfl rfl (Nat.le_of_ble_eq_true rfl) (Nat.le_of_ble_eq_true rfl) dX4_takesItem_5 rfl ?_
  refine ax_istore_n (pc' := 9) rfl (Nat.le_of_ble_eq_true rfl) dX4_takesItem_8 rfl ?_
  refine ax_iload_n (pc' := 10) rfl dX4_takesItem_9 rfl ?_
  refine ax_callSR (pc' := 13) ls_X4_40 (c_numbersBehind (by omega)) rfl rfl (Nat.le_of_ble_eq_true rfl) (Nat.le_of_ble_eq_true rfl) dX4_takesItem_10 rfl ?_
  refine ax_istore (pc' := 15) rfl (Nat.le_of_ble_eq_true rfl) dX4_takesItem_13 rfl ?_
  refine ax_aload_n (pc' := 16) rfl dX4_takesItem_15 rfl ?_
  refine ax_dup (pc' := 17) rfl dX4_takesItem_16 rfl ?_
  refine ax_getf (pc' := 20) fl_X4_15 R_o rfl dX4_takesItem_17 rfl ?_
  refine ax_iconst (pc' := 21) (v := (nI 1)) kc_1 dX4_takesItem_20 rfl ?_
  refine ax_iadd (pc' := 22) dX4_takesItem_21 rfl ?_
  refine ax_topi (nI_add i 1) ?_
  refine ax_putu (pc' := 25) fp_X4_15 R_o rfl (fun _ => ⟨rfl, rfl⟩) dX4_takesItem_22 rfl (fun s1 h1 => ?_)
  have R_o := ax_kS h1
  have R_numbers := ax_kN h1 R_numbers (by omega)
  have hP := hP.up h1 (by omega)
  have hB := hB.up h1 (by omega)
  have hF : rd_fr p σ s1 := rd_fr.rf.up h1 (by omega)
  obtain ⟨ch, hch⟩ : ∃ c, c = sp_lt n tx i := ⟨_, rfl⟩
  obtain ⟨w, hw⟩ : ∃ c, c = sp_want ch := ⟨_, rfl⟩
  have hw3 : w ≤ 3 := by rw [hw]; exact sp_want_le ch
  rw [← hch, ← hw]
  refine ax_iconst (pc' := 26) (v := (nI 0)) kc_0 dX4_takesItem_25 rfl ?_
  refine ax_istore (pc' := 28) rfl (Nat.le_of_ble_eq_true rfl) dX4_takesItem_26 rfl ?_
  have K : ∀ r k j (vs : List Nat) (f : Nat → Int32) (τ : ax_S) (z6 z7 : Option Value), vs.length = k → k + r = w → i < j → j ≤ i + 1 + 3 * k → rd_At τ.1 j f → (∀ q, q < k → f q = nI (vs.getD q 0) ∧ vs.getD q 0 ≤ 99) → pa_At τ.1 n tx → bl_Aw τ.1 p b fr → rd_fr p σ τ → sp_nums n tx w (i + 1) = (sp_nums n tx r j).map (fun q => (vs ++ q.1, q.2)) → ax_J (mX4_takesItem, 4, 0, 0) 0 0 28 [some (.ref 3), some (.ref 1), some (.ref p), some (.int (nI ch)), some (.int (nI w)), some (.int (nI k)), z6, z7] [] τ (tk_Po n tx i b p σ) := by
    intro r
    induction r with
    | zero =>
      intro k j vs f τ z6 z7 hk hkr hij hj hR hf hP hB hF hS
      have hkw : k = w := hkr
      have hB0 := hB
      obtain ⟨R_o, R_numbers⟩ := hR
      have B_o : τ.1 p = _ := hB.choose_spec.choose_spec.choose_spec.choose_spec.choose_spec.choose_spec.1
      refine ax_iload (pc' := 30) rfl dX4_takesItem_28 rfl ?_
      refine ax_iload (pc' := 32) rfl dX4_takesItem_30 rfl ?_
      refine ax_icmp_ge (pc' := 35) (tgt := 109) dX4_takesItem_32 (by decide) rfl (fun _ => ?_) (fun hz => absurd (nI_le (by omega) (by omega)) hz)
      refine ax_aload_n (pc' := 110) rfl dX4_takesItem_109 rfl ?_
      refine ax_iload_n (pc' := 111) rfl dX4_takesItem_110 rfl ?_
      refine ax_aload_n (pc' := 112) rfl dX4_takesItem_111 rfl ?_
      refine ax_getf (pc' := 115) fl_X4_9 R_o rfl dX4_takesItem_112 rfl ?_
      refine ax_iconst (pc' := 116) (v := (nI 0)) kc_0 dX4_takesItem_115 rfl ?_
      refine ax_callSR (pc' := 119) ls_X4_51 (c_at R_numbers (by decide) (by decide)) rfl rfl (Nat.le_of_ble_eq_true rfl) (Nat.le_of_ble_eq_true rfl) dX4_takesItem_116 rfl ?_
      refine ax_aload_n (pc' := 120) rfl dX4_takesItem_119 rfl ?_
      refine ax_getf (pc' := 123) fl_X4_9 R_o rfl dX4_takesItem_120 rfl ?_
      refine ax_iconst (pc' := 124) (v := (nI 1)) kc_1 dX4_takesItem_123 rfl ?_
      refine ax_callSR (pc' := 127) ls_X4_51 (c_at R_numbers (by decide) (by decide)) rfl rfl (Nat.le_of_ble_eq_true rfl) (Nat.le_of_ble_eq_true rfl) dX4_takesItem_124 rfl ?_
      refine ax_aload_n (pc' := 128) rfl dX4_takesItem_127 rfl ?_
      refine ax_getf (pc' := 131) fl_X4_9 R_o rfl dX4_takesItem_128 rfl ?_
      refine ax_iconst (pc' := 132) (v := (nI 2)) kc_2 dX4_takesItem_131 rfl ?_
      refine ax_callSR (pc' := 135) ls_X4_51 (c_at R_numbers (by decide) (by decide)) rfl rfl (Nat.le_of_ble_eq_true rfl) (Nat.le_of_ble_eq_true rfl) dX4_takesItem_132 rfl ?_
      refine ax_callVG (pc' := 138) lv_X4_55 (c_accepts (n1 := vs.getD 0 0) (n2 := vs.getD 1 0) (n3 := vs.getD 2 0) hB0 hb (by omega) (fun h => hf 0 (by omega)) (fun h => hf 1 (by omega)) (fun h => hf 2 (by omega))) B_o rfl rfl (Nat.le_of_ble_eq_true rfl) (Nat.le_of_ble_eq_true rfl) dX4_takesItem_135 rfl (fun r σ' hr => ?_)
      obtain ⟨hF2, hr⟩ := hr
      have hS' : sp_nums n tx w (i + 1) = some (vs, j) := by rw [hS]; simp [sp_nums]
      have hF3 := hF.tr hF2
      have R_o := hF2.at R_o (by omega)
      have R_numbers := hF2.at R_numbers (by omega)
      rcases hr with ⟨b', hb', rfl, hB'⟩ | ⟨hb', rfl, hB'⟩
      · exact ax_zret dX4_takesItem_138 rfl (by decide) (Nat.le_of_ble_eq_true rfl) (Nat.le_of_ble_eq_true rfl) (⟨hF3, Or.inl ⟨b', j, by simp only [sp_take, ← hch, ← hw, hS', hb', Option.map_some], hij, by omega, rfl, hB', f, R_o, R_numbers⟩⟩)
      · exact ax_zret dX4_takesItem_138 rfl (by decide) (Nat.le_of_ble_eq_true rfl) (Nat.le_of_ble_eq_true rfl) (⟨hF3, Or.inr ⟨by simp only [sp_take, ← hch, ← hw, hS', hb', Option.map_none], rfl, hB'.choose_spec.any, j, f, R_o, R_numbers⟩⟩)
    | succ r ih =>
      intro k j vs f τ z6 z7 hk hkr hij hj hR hf hP hB hF hS
      obtain ⟨R_o, R_numbers⟩ := hR
      have P_o : τ.1 1 = _ := hP.choose_spec.1
      refine ax_iload (pc' := 30) rfl dX4_takesItem_28 rfl ?_
      refine ax_iload (pc' := 32) rfl dX4_takesItem_30 rfl ?_
      refine ax_icmp_ge (pc' := 35) (tgt := 109) dX4_takesItem_32 (by decide) rfl (fun hz => absurd hz (nI_ge (by omega) (by omega))) (fun _ => ?_)
      refine ax_aload_n (pc' := 36) rfl dX4_takesItem_35 rfl ?_
      refine ax_aload_n (pc' := 37) rfl dX4_takesItem_36 rfl ?_
      refine ax_callVG (pc' := 40) lv_X4_43 (c_readNumber hT hP ⟨R_o, R_numbers⟩ (by omega)) R_o rfl rfl (Nat.le_of_ble_eq_true rfl) (Nat.le_of_ble_eq_true rfl) dX4_takesItem_37 rfl (fun r σ' hr => ?_)
      obtain ⟨hj1, hv1⟩ := sp_rn_le (n := n) (tx := tx) j
      obtain ⟨hr, ⟨R_o, R_numbers⟩, hF2⟩ := hr
      have hP := hP.rd (hF2 p) hp
      have hF := hF.tr2 (hF2 p)
      have P_o : σ'.1 1 = _ := hP.choose_spec.1
      have hB : bl_Aw σ'.1 p b fr := by
        obtain ⟨fl, fn, fb, fk, fp, fu, B_o, B_lies, B_leans, B_bends, B_roads, B_kinds, B_paces, B_units, rr⟩ := hB
        have hz : ∀ q, p ≤ q → σ'.1 q = τ.1 q := fun q hq => (hF2 (q + 1)).2 q (by omega) (by omega) (Or.inl (by omega))
        exact ⟨fl, fn, fb, fk, fp, fu, (hz _ (by omega)).trans B_o, (hz _ (by omega)).trans B_lies, (hz _ (by omega)).trans B_leans, (hz _ (by omega)).trans B_bends, (hz _ (by omega)).trans B_roads, (hz _ (by omega)).trans B_kinds, (hz _ (by omega)).trans B_paces, (hz _ (by omega)).trans B_units, rr⟩
      subst hr
      obtain ⟨ov, j2, hov⟩ : ∃ ov j2, sp_rn n tx j = (ov, j2) := ⟨_, _, rfl⟩
      rw [hov] at R_o hj1 hv1 ⊢
      refine ax_istore (pc' := 42) rfl (Nat.le_of_ble_eq_true rfl) dX4_takesItem_40 rfl ?_
      refine ax_iload (pc' := 44) rfl dX4_takesItem_42 rfl ?_
      refine ax_iload (pc' := 46) rfl dX4_takesItem_44 rfl ?_
      refine ax_iconst (pc' := 47) (v := (nI 1)) kc_1 dX4_takesItem_46 rfl ?_
      refine ax_isub (pc' := 48) dX4_takesItem_47 rfl ?_
      refine ax_topi (v' := nI (w - 1)) (pk_sub (by omega)) ?_
      have K2 : ax_J (mX4_takesItem, 4, 0, 0) 0 0 58 [some (.ref 3), some (.ref 1), some (.ref p), some (.int (nI ch)), some (.int (nI w)), some (.int (nI k)), some (.int (sp_en ov)), z7] [.int (nI (if r = 0 then 59 else 44))] σ' (tk_Po n tx i b p σ) := by
        refine ax_istore (pc' := 60) rfl (Nat.le_of_ble_eq_true rfl) dX4_takesItem_58 rfl ?_
        refine ax_iload (pc' := 62) rfl dX4_takesItem_60 rfl ?_
        refine ax_bipush (pc' := 64) (v := (-4)) kb_m4 dX4_takesItem_62 rfl ?_
        cases ov with
        | none =>
          refine ax_icmp_eq (pc' := 67) (tgt := 80) dX4_takesItem_64 (by decide) rfl (fun _ => ?_) (fun hz => absurd (rfl) hz)
          refine ax_iconst (pc' := 81) (v := (nI 0)) kc_0 dX4_takesItem_80 rfl ?_
          refine ax_zret dX4_takesItem_81 rfl (by decide) (Nat.le_refl 0) (Nat.le_refl 0) ⟨hF, Or.inr ⟨?_, rfl, hB.any, _, _, R_o, R_numbers⟩⟩
          have hn : sp_nums n tx (r + 1) j = none := by simp only [sp_nums, hov]
          rw [hn] at hS
          simp only [sp_take, ← hch, ← hw, hS, Option.map_none]
        | some v =>
          have hv99 := hv1 v rfl
          refine ax_icmp_eq (pc' := 67) (tgt := 80) dX4_takesItem_64 (by decide) rfl (fun hz => absurd hz (nI_ne4 (by omega))) (fun _ => ?_)
          refine ax_aload_n (pc' := 68) rfl dX4_takesItem_67 rfl ?_
          refine ax_aload_n (pc' := 69) rfl dX4_takesItem_68 rfl ?_
          refine ax_getf (pc' := 72) fl_X4_15 R_o rfl dX4_takesItem_69 rfl ?_
          refine ax_callVR (pc' := 75) lv_X4_36 (c_letterAt hP hT.1 (by omega)) P_o rfl rfl (Nat.le_of_ble_eq_true rfl) (Nat.le_of_ble_eq_true rfl) dX4_takesItem_72 rfl ?_
          refine ax_iload (pc' := 77) rfl dX4_takesItem_75 rfl ?_
          have hlt := sp_lt_le hT j2
          by_cases hs : sp_lt n tx j2 = (if r = 0 then 59 else 44)
          · refine ax_icmp_eq (pc' := 80) (tgt := 82) dX4_takesItem_77 (by decide) rfl (fun _ => ?_) (fun hz => absurd (by rw [hs]) hz)
            refine ax_aload_n (pc' := 83) rfl dX4_takesItem_82 rfl ?_
            refine ax_getf (pc' := 86) fl_X4_9 R_o rfl dX4_takesItem_83 rfl ?_
            refine ax_iload (pc' := 88) rfl dX4_takesItem_86 rfl ?_
            refine ax_iload (pc' := 90) rfl dX4_takesItem_88 rfl ?_
            refine ax_callSU (pc' := 93) ls_X4_47 (c_put R_numbers (j := k) (by omega) (by decide)) rfl rfl (Nat.le_of_ble_eq_true rfl) (Nat.le_of_ble_eq_true rfl) dX4_takesItem_90 rfl (fun s2 h2 => ?_)
            have R_numbers := ax_kS h2
            have R_o := ax_kN h2 R_o (by omega)
            have hP := hP.up h2 (by omega)
            have hB := hB.up h2 (by omega)
            have hF := hF.up h2 (by omega)
            refine ax_aload_n (pc' := 94) rfl dX4_takesItem_93 rfl ?_
            refine ax_dup (pc' := 95) rfl dX4_takesItem_94 rfl ?_
            refine ax_getf (pc' := 98) fl_X4_15 R_o rfl dX4_takesItem_95 rfl ?_
            refine ax_iconst (pc' := 99) (v := (nI 1)) kc_1 dX4_takesItem_98 rfl ?_
            refine ax_iadd (pc' := 100) dX4_takesItem_99 rfl ?_
            refine ax_topi (nI_add j2 1) ?_
            refine ax_putu (pc' := 103) fp_X4_15 R_o rfl (fun _ => ⟨rfl, rfl⟩) dX4_takesItem_100 rfl (fun s3 h3 => ?_)
            have R_o := ax_kS h3
            have R_numbers := ax_kN h3 R_numbers (by omega)
            have hP := hP.up h3 (by omega)
            have hB := hB.up h3 (by omega)
            have hF := hF.up h3 (by omega)
            refine ax_iinc1 (pc' := 106) rfl rfl (Nat.le_of_ble_eq_true rfl) dX4_takesItem_103 rfl ?_
            refine ax_goto (tgt := 28) dX4_takesItem_106 (by decide) ?_
            have hj0 : j < j2 := by
              have : (sp_rn n tx j).2 = j2 := by rw [hov]
              have h9 : (sp_rn n tx j).1 = some v := by rw [hov]
              unfold sp_rn at this h9
              split at this
              · split at this <;> simp_all <;> omega
              · simp_all
            refine ih (k + 1) (j2 + 1) (vs ++ [v]) _ s3 _ _ (by simp [hk]) (by omega) (by omega) (by omega) ⟨R_o, R_numbers⟩ (fun q hq => ?_) hP hB hF ?_
            · by_cases e : q = k
              · subst e
                simp only [upd, if_true]
                rw [show (vs ++ [v]).getD q 0 = v by simp [← hk]]
                exact ⟨rfl, hv99⟩
              · simp only [upd, e, if_false]
                rw [show (vs ++ [v]).getD q 0 = vs.getD q 0 by simp [List.getD_eq_getElem?_getD, List.getElem?_append_left (show q < vs.length by omega)]]
                exact hf q (by omega)
            · rw [hS]
              simp only [sp_nums, hov, hs, if_true, Option.map_map]
              congr 1
              funext q
              simp
          · refine ax_icmp_eq (pc' := 80) (tgt := 82) dX4_takesItem_77 (by decide) rfl (fun hz => absurd hz (fun h => hs ((nI_eq (by omega) (by split <;> omega)).mp h))) (fun _ => ?_)
            refine ax_iconst (pc' := 81) (v := (nI 0)) kc_0 dX4_takesItem_80 rfl ?_
            refine ax_zret dX4_takesItem_81 rfl (by decide) (Nat.le_refl 0) (Nat.le_refl 0) ⟨hF, Or.inr ⟨?_, rfl, hB.any, _, _, R_o, R_numbers⟩⟩
            have hn : sp_nums n tx (r + 1) j = none := by simp only [sp_nums, hov, hs, if_false]
            rw [hn] at hS
            simp only [sp_take, ← hch, ← hw, hS, Option.map_none]
      by_cases hr0 : r = 0
      · rw [if_pos hr0] at K2
        refine ax_icmp_ge (pc' := 51) (tgt := 56) dX4_takesItem_48 (by decide) rfl (fun _ => ?_) (fun hz => absurd (nI_le (by omega) (by omega)) hz)
        refine ax_bipush (pc' := 58) (v := (nI 59)) kb_59 dX4_takesItem_56 rfl ?_
        exact K2
      · rw [if_neg hr0] at K2
        refine ax_icmp_ge (pc' := 51) (tgt := 56) dX4_takesItem_48 (by decide) rfl (fun hz => absurd hz (nI_ge (by omega) (by omega))) (fun _ => ?_)
        refine ax_bipush (pc' := 53) (v := (nI 44)) kb_44 dX4_takesItem_51 rfl ?_
        refine ax_goto (tgt := 58) dX4_takesItem_53 (by decide) ?_
        exact K2
  refine K w 0 (i + 1) [] f s1 none none rfl (by omega) (by omega) (by omega) ⟨R_o, R_numbers⟩ (fun q hq => by omega) hP hB hF ?_
  cases sp_nums n tx w (i + 1) with
  | none => rfl
  | some q => rfl
/-- the reader's cells, whatever they hold -/
def rd_Any (h : ax_H) : Prop := ∃ (v : Int32) (f : Nat → Int32), h 3 = some (.inr (4, [.ref 4, .int v])) ∧ h 4 = some (.inl (false, 3, f))
theorem rd_At.any {h : ax_H} {i : Nat} {f : Nat → Int32} (hR : rd_At h i f) : rd_Any h := ⟨_, f, hR.1, hR.2⟩
abbrev ff_Po (n : Nat) (tx : Nat → Nat) (p : Nat) (σ : ax_S) : Option Value → ax_S → Prop := fun r τ => rd_fr p σ τ ∧ rd_Any τ.1 ∧ ((∃ i, sp_pa n tx 200 0 sp_b0 = .inl i ∧ i < n ∧ r = some (.int (nI i)) ∧ bl_Any τ.1 p) ∨ (∃ b, sp_pa n tx 200 0 sp_b0 = .inr b ∧ sp_ok b ∧ r = some (.int (-4)) ∧ bl_At τ.1 p b))
theorem c_firstFault {σ : ax_S} {p n : Nat} {tx : Nat → Nat} (hT : sp_tok n tx) (hP : pa_At σ.1 n tx) (hR : rd_Any σ.1) (hp : 5 ≤ p) (hB : bl_Any σ.1 p) : ax_N mX4_firstFault 5 0 0 [.ref 3, .ref 1, .ref p] σ (ff_Po n tx p σ) := by
  obtain ⟨v0, f0, R_o, R_numbers⟩ := hR
  have B_o : σ.1 p = _ := hB.choose_spec.choose_spec.choose_spec.choose_spec.choose_spec.choose_spec.choose_spec.choose_spec.choose_spec.choose_spec.1
  refine ax_N.of (ls := [some (.ref 3), some (.ref 1), some (.ref p), none, none]) (by decide +kernel) rfl (Nat.le_of_ble_eq_true rfl) ?_
  refine ax_aload_n (pc' := 1) rfl dX4_firstFault_0 rfl ?_
  refine ax_callVG (pc' := 4) lv_X4_19 (c_Ball_clear hB) B_o rfl rfl (Nat.le_of_ble_eq_true rfl) (Nat.le_of_ble_eq_true rfl) dX4_firstFault_1 rfl (fun r σ' hr => ?_)
  obtain ⟨rfl, ⟨fr, hB⟩, hF0⟩ := hr
  have R_o := hF0.at R_o (by omega)
  have R_numbers := hF0.at R_numbers (by omega)
  have hF : rd_fr p σ σ' := rd_fr.rf.tr hF0
  have hP := hP.rd hF hp
  refine ax_aload_n (pc' := 5) rfl dX4_firstFault_4 rfl ?_
  refine ax_iconst (pc' := 6) (v := (nI 0)) kc_0 dX4_firstFault_5 rfl ?_
  refine ax_putu (pc' := 9) fp_X4_15 R_o rfl (fun _ => ⟨rfl, rfl⟩) dX4_firstFault_6 rfl (fun s1 h1 => ?_)
  have R_o := ax_kS h1
  have R_numbers := ax_kN h1 R_numbers (by omega)
  have hP := hP.up h1 (by omega)
  have hB := hB.up h1 (by omega)
  have hF := hF.up h1 (by omega)
  refine ax_iconst (pc' := 10) (v := (nI 0)) kc_0 dX4_firstFault_9 rfl ?_
  refine ax_istore_n (pc' := 11) rfl (Nat.le_of_ble_eq_true rfl) dX4_firstFault_10 rfl ?_
  have K : ∀ m k i (b : sp_B) (fr f : Nat → Int32) (τ : ax_S) (z : Option Value), k + m = 200 → k ≤ i → i ≤ n + 10 → rd_At τ.1 i f → pa_At τ.1 n tx → bl_Aw τ.1 p b fr → sp_ok b → rd_fr p σ τ → sp_pa n tx 200 0 sp_b0 = sp_pa n tx m i b → ax_J (mX4_firstFault, 5, 0, 0) 0 0 11 [some (.ref 3), some (.ref 1), some (.ref p), some (.int (nI k)), z] [] τ (ff_Po n tx p σ) := by
    have hn := hT.1
    have END : ∀ i (b : sp_B) (fr f : Nat → Int32) (τ : ax_S) (z3 z : Option Value), rd_At τ.1 i f → bl_Aw τ.1 p b fr → sp_ok b → rd_fr p σ τ → sp_pa n tx 200 0 sp_b0 = .inr b → ax_J (mX4_firstFault, 5, 0, 0) 0 0 53 [some (.ref 3), some (.ref 1), some (.ref p), z3, z] [] τ (ff_Po n tx p σ) := by
      intro i b fr f τ z3 z hR hB hb hF hS
      have B_o : τ.1 p = _ := hB.choose_spec.choose_spec.choose_spec.choose_spec.choose_spec.choose_spec.1
      refine ax_aload_n (pc' := 54) rfl dX4_firstFault_53 rfl ?_
      refine ax_callVG (pc' := 57) lv_X4_33 (c_measureRoads hB hb) B_o rfl rfl (Nat.le_of_ble_eq_true rfl) (Nat.le_of_ble_eq_true rfl) dX4_firstFault_54 rfl (fun r σ' hr => ?_)
      obtain ⟨rfl, hB2, hF2⟩ := hr
      refine ax_bipush (pc' := 59) (v := (-4)) kb_m4 dX4_firstFault_57 rfl ?_
      exact ax_iret dX4_firstFault_59 rfl (Nat.le_of_ble_eq_true rfl) (Nat.le_of_ble_eq_true rfl) (⟨hF.tr hF2, ⟨_, _, hF2.at hR.1 (by omega), hF2.at hR.2 (by omega)⟩, Or.inr ⟨b, hS, hb, rfl, hB2⟩⟩)
    intro m
    induction m with
    | zero =>
      intro k i b fr f τ z hk hki hin hR hP hB hb hF hS
      have hk : k = 200 := hk
      subst hk
      refine ax_iload_n (pc' := 12) rfl dX4_firstFault_11 rfl ?_
      refine ax_sipush (pc' := 15) (v := (nI 200)) ks_200 dX4_firstFault_12 rfl ?_
      refine ax_icmp_ge (pc' := 18) (tgt := 53) dX4_firstFault_15 (by decide) rfl (fun _ => ?_) (fun hz => absurd ((by decide)) hz)
      exact END i b fr f τ _ z hR hB hb hF hS
    | succ m ih =>
      intro k i b fr f τ z hk hki hin hR hP hB hb hF hS
      obtain ⟨R_o, R_numbers⟩ := hR
      have P_o : τ.1 1 = _ := hP.choose_spec.1
      refine ax_iload_n (pc' := 12) rfl dX4_firstFault_11 rfl ?_
      refine ax_sipush (pc' := 15) (v := (nI 200)) ks_200 dX4_firstFault_12 rfl ?_
      refine ax_icmp_ge (pc' := 18) (tgt := 53) dX4_firstFault_15 (by decide) rfl (fun hz => absurd hz (nI_ge (by omega) (by omega))) (fun _ => ?_)
      refine ax_aload_n (pc' := 19) rfl dX4_firstFault_18 rfl ?_
      refine ax_getf (pc' := 22) fl_X4_15 R_o rfl dX4_firstFault_19 rfl ?_
      refine ax_aload_n (pc' := 23) rfl dX4_firstFault_22 rfl ?_
      refine ax_getf (pc' := 26) fl_X4_24 P_o rfl dX4_firstFault_23 rfl ?_
      by_cases hlt : i < n
      · refine ax_icmp_ge (pc' := 29) (tgt := 53) dX4_firstFault_26 (by decide) rfl (fun hz => absurd hz (nI_ge hlt (by omega))) (fun _ => ?_)
        refine ax_aload_n (pc' := 30) rfl dX4_firstFault_29 rfl ?_
        refine ax_getf (pc' := 33) fl_X4_15 R_o rfl dX4_firstFault_30 rfl ?_
        refine ax_istore (pc' := 35) rfl (Nat.le_of_ble_eq_true rfl) dX4_firstFault_33 rfl ?_
        refine ax_aload_n (pc' := 36) rfl dX4_firstFault_35 rfl ?_
        refine ax_aload_n (pc' := 37) rfl dX4_firstFault_36 rfl ?_
        refine ax_aload_n (pc' := 38) rfl dX4_firstFault_37 rfl ?_
        refine ax_callVG (pc' := 41) lv_X4_29 (c_takesItem hT hP ⟨R_o, R_numbers⟩ hp (by omega) hB hb) R_o rfl rfl (Nat.le_of_ble_eq_true rfl) (Nat.le_of_ble_eq_true rfl) dX4_firstFault_38 rfl (fun r σ' hr => ?_)
        obtain ⟨hF2, hr⟩ := hr
        have hF3 := hF.tr2 hF2
        rcases hr with ⟨b', e, ht, he1, he2, rfl, ⟨fr', hB'⟩, f', hR'⟩ | ⟨ht, rfl, hB', e, f', hR'⟩
        · refine ax_if_ne (pc' := 44) (tgt := 47) dX4_firstFault_41 (by decide) rfl (fun _ => ?_) (fun hz => absurd hz (kz_1))
          refine ax_iinc1 (pc' := 50) rfl rfl (Nat.le_of_ble_eq_true rfl) dX4_firstFault_47 rfl ?_
          refine ax_goto (tgt := 11) dX4_firstFault_50 (by decide) ?_
          refine ih (k + 1) e b' fr' f' σ' _ (by omega) (by omega) (by omega) hR' (hP.rd hF2 hp) hB' ?_ hF3 ?_
          · unfold sp_take at ht
            split at ht
            · cases ht
            · obtain ⟨b9, h9, e9⟩ := Option.map_eq_some_iff.mp ht
              cases e9
              exact sp_item_ok hb h9
          · rw [hS]
            simp only [sp_pa, hlt, if_true, ht]
        · refine ax_if_ne (pc' := 44) (tgt := 47) dX4_firstFault_41 (by decide) rfl (fun hz => absurd (kz_0) hz) (fun _ => ?_)
          refine ax_iload (pc' := 46) rfl dX4_firstFault_44 rfl ?_
          exact ax_iret dX4_firstFault_46 rfl (Nat.le_of_ble_eq_true rfl) (Nat.le_of_ble_eq_true rfl) (⟨hF3, hR'.any, Or.inl ⟨i, by rw [hS]; simp only [sp_pa, hlt, if_true, ht], hlt, rfl, hB'⟩⟩)
      · refine ax_icmp_ge (pc' := 29) (tgt := 53) dX4_firstFault_26 (by decide) rfl (fun _ => ?_) (fun hz => absurd (nI_le (by omega) (by omega)) hz)
        exact END i b fr f τ _ z ⟨R_o, R_numbers⟩ hB hb hF (by rw [hS]; simp only [sp_pa, hlt, if_false])
  exact K 200 0 0 sp_b0 fr f0 s1 none (by omega) (by omega) (by omega) ⟨R_o, R_numbers⟩ hP hB sp_b0_ok hF rfl
