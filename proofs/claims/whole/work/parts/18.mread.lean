/-! ===== the model: what it holds ===== -/
abbrev mo_f (g t w ng nt nw ac kp ln ap bg wr se : Int32) : List Value := [.int g, .int t, .ref 57, .ref 58, .ref 59, .int w, .ref 60, .ref 61, .ref 62, .int ng, .int nt, .ref 63, .ref 64, .ref 65, .int nw, .ref 66, .ref 67, .ref 68, .ref 69, .int ac, .int kp, .int ln, .ref 70, .int ap, .int bg, .int wr, .int se, .ref 71, .ref 72, .ref 73, .ref 74]
def mb_At (h : ax_H) (b : sp_B) : Prop := ∃ fl fn fb fk fp fu : Nat → Int32, h 57 = some (.inl (false, 6, fl)) ∧ h 58 = some (.inl (false, 6, fn)) ∧ h 59 = some (.inl (false, 36, fb)) ∧ h 60 = some (.inl (false, 4, fk)) ∧ h 61 = some (.inl (false, 4, fp)) ∧ h 62 = some (.inl (false, 4, fu)) ∧ (∀ t, t < b.2.1 → fl t = nI (sp_L b t) ∧ fn t = nI (sp_W b t) - nI 4) ∧ (∀ q, q < 36 → fb q = nI (sp_R b q)) ∧ (∀ w, w < b.2.2.1 → fk w = nI (sp_K b w) ∧ fp w = nI (sp_P b w) ∧ fu w = nI (sp_U b w))
/-- what the model's questions read: the laid ball and the slots -/
def ml_At (h : ax_H) (b : sp_B) (f : Nat → Int32) : Prop := (∃ ng nt nw ac kp ln ap bg wr se : Int32, h 56 = some (.inr (8, mo_f (nI b.1) (nI b.2.1) (nI b.2.2.1) ng nt nw ac kp ln ap bg wr se))) ∧ mb_At h b ∧ h 69 = some (.inl (false, 456, f))
/-- reports and days in a slot -/
def sl_At (f : Nat → Int32) (p : Nat) (rs : List sp_rep) (dy : Nat) : Prop := f (p + 36) = nI rs.length ∧ f (p + 37) = nI dy ∧ ∀ i, i < rs.length → f (p + 4 * i) = nI (sp_at rs i).1 ∧ f (p + 4 * i + 1) = nI (sp_at rs i).2.1 ∧ f (p + 4 * i + 2) = nI (sp_at rs i).2.2.1 ∧ f (p + 4 * i + 3) = nI (sp_at rs i).2.2.2
theorem cm_lt (a b : Int64) : lg_cmp a b < 0 ↔ a < b := by
  unfold lg_cmp
  by_cases h : b < a
  · have h2 : ¬ a < b := fun q => by rw [Int64.lt_iff_toInt_lt] at h q; omega
    simp only [h, if_true, h2, iff_false]
    decide
  · by_cases h2 : a < b
    · have h3 : ¬ a = b := fun q => by rw [q, Int64.lt_iff_toInt_lt] at h2; omega
      simp [h, h2, h3]
    · have h3 : a = b := Int64.toInt_inj.mp (by rw [Int64.lt_iff_toInt_lt] at h h2; omega)
      subst h3
      simp
theorem cm_gt (a b : Int64) : 0 < lg_cmp a b ↔ b < a := by
  unfold lg_cmp
  by_cases h : b < a
  · simp only [h, if_true, iff_true]
    decide
  · simp only [h, if_false, iff_false]
    split <;> decide
section MA
variable {σ : ax_S} {b : sp_B} {f : Nat → Int32}
theorem m_inT {v lo hi : Int64} (h1 : lo ≤ v) (h2 : v ≤ hi) : ax_R mX8_in 0 [.long v, .long lo, .long hi] σ (.int (nI 1)) := by
  refine ax_N.of (ls := [some (.long v), none, some (.long lo), none, some (.long hi), none]) (by decide +kernel) rfl (Nat.le_of_ble_eq_true rfl) ?_
  refine ax_lload_n (pc' := 1) rfl dX8_in_0 rfl ?_
  refine ax_lload_n (pc' := 2) rfl dX8_in_1 rfl ?_
  refine ax_lcmp (pc' := 3) dX8_in_2 rfl ?_
  refine ax_if_lt (pc' := 6) (tgt := 17) dX8_in_3 (by decide) rfl (fun hz => absurd hz (fun h => by rw [cm_lt, Int64.lt_iff_toInt_lt] at h; rw [Int64.le_iff_toInt_le] at h1; omega)) (fun _ => ?_)
  refine ax_lload_n (pc' := 7) rfl dX8_in_6 rfl ?_
  refine ax_lload (pc' := 9) rfl dX8_in_7 rfl ?_
  refine ax_lcmp (pc' := 10) dX8_in_9 rfl ?_
  refine ax_if_gt (pc' := 13) (tgt := 17) dX8_in_10 (by decide) rfl (fun hz => absurd hz (fun h => by rw [cm_gt, Int64.lt_iff_toInt_lt] at h; rw [Int64.le_iff_toInt_le] at h2; omega)) (fun _ => ?_)
  refine ax_iconst (pc' := 14) (v := (nI 1)) kc_1 dX8_in_13 rfl ?_
  refine ax_goto (tgt := 18) dX8_in_14 (by decide) ?_
  exact ax_zret dX8_in_18 rfl (by decide) (Nat.le_of_ble_eq_true rfl) (Nat.le_of_ble_eq_true rfl) (⟨rfl, rfl⟩)
theorem m_inF {v lo hi : Int64} (h : ¬ (lo ≤ v ∧ v ≤ hi)) : ax_R mX8_in 0 [.long v, .long lo, .long hi] σ (.int (nI 0)) := by
  refine ax_N.of (ls := [some (.long v), none, some (.long lo), none, some (.long hi), none]) (by decide +kernel) rfl (Nat.le_of_ble_eq_true rfl) ?_
  refine ax_lload_n (pc' := 1) rfl dX8_in_0 rfl ?_
  refine ax_lload_n (pc' := 2) rfl dX8_in_1 rfl ?_
  refine ax_lcmp (pc' := 3) dX8_in_2 rfl ?_
  refine ax_if_lt (pc' := 6) (tgt := 17) dX8_in_3 (by decide) rfl (fun h1 => ?_) (fun h1 => ?_)
  · refine ax_iconst (pc' := 18) (v := (nI 0)) kc_0 dX8_in_17 rfl ?_
    exact ax_zret dX8_in_18 rfl (by decide) (Nat.le_of_ble_eq_true rfl) (Nat.le_of_ble_eq_true rfl) (⟨rfl, rfl⟩)
  · refine ax_lload_n (pc' := 7) rfl dX8_in_6 rfl ?_
    refine ax_lload (pc' := 9) rfl dX8_in_7 rfl ?_
    refine ax_lcmp (pc' := 10) dX8_in_9 rfl ?_
    refine ax_if_gt (pc' := 13) (tgt := 17) dX8_in_10 (by decide) rfl (fun _ => ?_) (fun hz => absurd ((cm_gt _ _).mpr (Int64.lt_iff_toInt_lt.mpr (by rw [cm_lt, Int64.lt_iff_toInt_lt] at h1; rw [Int64.le_iff_toInt_le, Int64.le_iff_toInt_le] at h; omega))) hz)
    refine ax_iconst (pc' := 18) (v := (nI 0)) kc_0 dX8_in_17 rfl ?_
    exact ax_zret dX8_in_18 rfl (by decide) (Nat.le_of_ble_eq_true rfl) (Nat.le_of_ble_eq_true rfl) (⟨rfl, rfl⟩)
theorem il_le {v : Int32} {n : Nat} (hn : n < 2 ^ 31) : (lN n ≤ v.toInt64 ↔ nI n ≤ v) ∧ (v.toInt64 ≤ lN n ↔ v ≤ nI n) := by
  rw [Int64.le_iff_toInt_le, Int64.le_iff_toInt_le, Int32.le_iff_toInt_le, Int32.le_iff_toInt_le, Int32.toInt_toInt64, lN_toInt hn, nI_toInt hn]
  exact ⟨Iff.rfl, Iff.rfl⟩
/-- in, of an int and two numbers -/
theorem m_isT {v : Int32} {lo hi : Nat} (hl : lo < 2 ^ 31) (hh : hi < 2 ^ 31) (h1 : nI lo ≤ v) (h2 : v ≤ nI hi) : ax_R mX8_in 0 [.long v.toInt64, .long (lN lo), .long (lN hi)] σ (.int (nI 1)) := m_inT ((il_le hl).1.mpr h1) ((il_le hh).2.mpr h2)
theorem m_isF {v : Int32} {lo hi : Nat} (hl : lo < 2 ^ 31) (hh : hi < 2 ^ 31) (h : ¬ (nI lo ≤ v ∧ v ≤ nI hi)) : ax_R mX8_in 0 [.long v.toInt64, .long (lN lo), .long (lN hi)] σ (.int (nI 0)) := m_inF (fun q => h ⟨(il_le hl).1.mp q.1, (il_le hh).2.mp q.2⟩)
theorem il_ix {v : Int32} {n : Nat} (hn : n ≤ 1000) : (lN 0 ≤ v.toInt64 ∧ v.toInt64 ≤ (nI n - nI 1).toInt64) ↔ ∃ j, j < n ∧ v = nI j := by
  rw [Int64.le_iff_toInt_le, Int64.le_iff_toInt_le, Int32.toInt_toInt64, Int32.toInt_toInt64, lN_toInt (by decide), pk_sub_toInt (by omega) (by decide)]
  constructor
  · intro ⟨h1, h2⟩
    obtain ⟨j, hj, rfl⟩ := nI_of (x := v) (fun h => by rw [Int32.lt_iff_toInt_lt, Int32.toInt_zero] at h; omega)
    rw [nI_toInt hj] at h2
    exact ⟨j, by omega, rfl⟩
  · intro ⟨j, hj, e⟩
    subst e
    rw [nI_toInt (by omega)]
    omega
theorem m_apart {x y : Nat} (hx : x < 2 ^ 31) (hy : y < 2 ^ 31) : ax_R mX8_apart 0 [.int (nI x), .int (nI y)] σ (.int (nI (sp_far x y))) := by
  refine ax_N.of (ls := [some (.int (nI x)), some (.int (nI y))]) (by decide +kernel) rfl (Nat.le_of_ble_eq_true rfl) ?_
  refine ax_iload_n (pc' := 1) rfl dX8_apart_0 rfl ?_
  refine ax_iload_n (pc' := 2) rfl dX8_apart_1 rfl ?_
  by_cases h : x < y
  · refine ax_icmp_ge (pc' := 5) (tgt := 11) dX8_apart_2 (by decide) rfl (fun hz => absurd hz (nI_ge h hy)) (fun _ => ?_)
    refine ax_iload_n (pc' := 6) rfl dX8_apart_5 rfl ?_
    refine ax_iload_n (pc' := 7) rfl dX8_apart_6 rfl ?_
    refine ax_isub (pc' := 8) dX8_apart_7 rfl ?_
    refine ax_topi (v' := nI (sp_far x y)) (by rw [pk_sub (by omega)]; congr 1; unfold sp_far; omega) ?_
    refine ax_goto (tgt := 14) dX8_apart_8 (by decide) ?_
    exact ax_iret dX8_apart_14 rfl (Nat.le_of_ble_eq_true rfl) (Nat.le_of_ble_eq_true rfl) (⟨rfl, rfl⟩)
  · refine ax_icmp_ge (pc' := 5) (tgt := 11) dX8_apart_2 (by decide) rfl (fun _ => ?_) (fun hz => absurd (nI_le (by omega) hx) hz)
    refine ax_iload_n (pc' := 12) rfl dX8_apart_11 rfl ?_
    refine ax_iload_n (pc' := 13) rfl dX8_apart_12 rfl ?_
    refine ax_isub (pc' := 14) dX8_apart_13 rfl ?_
    refine ax_topi (v' := nI (sp_far x y)) (by rw [pk_sub (by omega)]; congr 1; unfold sp_far; omega) ?_
    exact ax_iret dX8_apart_14 rfl (Nat.le_of_ble_eq_true rfl) (Nat.le_of_ble_eq_true rfl) (⟨rfl, rfl⟩)
theorem m_smaller {x y : Nat} (hx : x < 2 ^ 31) (hy : y < 2 ^ 31) : ax_R mX8_smaller 0 [.int (nI x), .int (nI y)] σ (.int (nI (min x y))) := by
  refine ax_N.of (ls := [some (.int (nI x)), some (.int (nI y))]) (by decide +kernel) rfl (Nat.le_of_ble_eq_true rfl) ?_
  refine ax_iload_n (pc' := 1) rfl dX8_smaller_0 rfl ?_
  refine ax_iload_n (pc' := 2) rfl dX8_smaller_1 rfl ?_
  by_cases h : x < y
  · refine ax_icmp_ge (pc' := 5) (tgt := 9) dX8_smaller_2 (by decide) rfl (fun hz => absurd hz (nI_ge h hy)) (fun _ => ?_)
    refine ax_iload_n (pc' := 6) rfl dX8_smaller_5 rfl ?_
    refine ax_goto (tgt := 10) dX8_smaller_6 (by decide) ?_
    exact ax_iret dX8_smaller_10 rfl (Nat.le_of_ble_eq_true rfl) (Nat.le_of_ble_eq_true rfl) (⟨by rw [Nat.min_eq_left (by omega)], rfl⟩)
  · refine ax_icmp_ge (pc' := 5) (tgt := 9) dX8_smaller_2 (by decide) rfl (fun _ => ?_) (fun hz => absurd (nI_le (by omega) hx) hz)
    refine ax_iload_n (pc' := 10) rfl dX8_smaller_9 rfl ?_
    exact ax_iret dX8_smaller_10 rfl (Nat.le_of_ble_eq_true rfl) (Nat.le_of_ble_eq_true rfl) (⟨by rw [Nat.min_eq_right (by omega)], rfl⟩)
theorem m_larger {x y : Nat} (hx : x < 2 ^ 31) (hy : y < 2 ^ 31) : ax_R mX8_larger 0 [.int (nI x), .int (nI y)] σ (.int (nI (max x y))) := by
  refine ax_N.of (ls := [some (.int (nI x)), some (.int (nI y))]) (by decide +kernel) rfl (Nat.le_of_ble_eq_true rfl) ?_
  refine ax_iload_n (pc' := 1) rfl dX8_larger_0 rfl ?_
  refine ax_iload_n (pc' := 2) rfl dX8_larger_1 rfl ?_
  by_cases h : x < y
  · refine ax_icmp_ge (pc' := 5) (tgt := 9) dX8_larger_2 (by decide) rfl (fun hz => absurd hz (nI_ge h hy)) (fun _ => ?_)
    refine ax_iload_n (pc' := 6) rfl dX8_larger_5 rfl ?_
    refine ax_goto (tgt := 10) dX8_larger_6 (by decide) ?_
    exact ax_iret dX8_larger_10 rfl (Nat.le_of_ble_eq_true rfl) (Nat.le_of_ble_eq_true rfl) (⟨by rw [Nat.max_eq_right (by omega)], rfl⟩)
  · refine ax_icmp_ge (pc' := 5) (tgt := 9) dX8_larger_2 (by decide) rfl (fun _ => ?_) (fun hz => absurd (nI_le (by omega) hx) hz)
    refine ax_iload_n (pc' := 10) rfl dX8_larger_9 rfl ?_
    exact ax_iret dX8_larger_10 rfl (Nat.le_of_ble_eq_true rfl) (Nat.le_of_ble_eq_true rfl) (⟨by rw [Nat.max_eq_left (by omega)], rfl⟩)
theorem m_largerN {y : Nat} (hy : y < 2 ^ 31) : ax_R mX8_larger 0 [.int (-1), .int (nI y)] σ (.int (nI y)) := by
  refine ax_N.of (ls := [some (.int (-1)), some (.int (nI y))]) (by decide +kernel) rfl (Nat.le_of_ble_eq_true rfl) ?_
  refine ax_iload_n (pc' := 1) rfl dX8_larger_0 rfl ?_
  refine ax_iload_n (pc' := 2) rfl dX8_larger_1 rfl ?_
  refine ax_icmp_ge (pc' := 5) (tgt := 9) dX8_larger_2 (by decide) rfl (fun hz => absurd hz (fun h => by rw [Int32.le_iff_toInt_le, nI_toInt hy, show (-1 : Int32).toInt = -1 by decide] at h; omega)) (fun _ => ?_)
  refine ax_iload_n (pc' := 6) rfl dX8_larger_5 rfl ?_
  refine ax_goto (tgt := 10) dX8_larger_6 (by decide) ?_
  exact ax_iret dX8_larger_10 rfl (Nat.le_of_ble_eq_true rfl) (Nat.le_of_ble_eq_true rfl) (⟨rfl, rfl⟩)
theorem m_larger0 {v : Int32} {a c : Nat} (ha : a < 2 ^ 30) (hc : c < 2 ^ 30) (hv : v = nI a - nI c) : ax_R mX8_larger 0 [.int (nI 0), .int v] σ (.int (nI (a - c))) := by
  subst hv
  refine ax_N.of (ls := [some (.int (nI 0)), some (.int (nI a - nI c))]) (by decide +kernel) rfl (Nat.le_of_ble_eq_true rfl) ?_
  refine ax_iload_n (pc' := 1) rfl dX8_larger_0 rfl ?_
  refine ax_iload_n (pc' := 2) rfl dX8_larger_1 rfl ?_
  by_cases h : 0 < a - c
  · refine ax_icmp_ge (pc' := 5) (tgt := 9) dX8_larger_2 (by decide) rfl (fun hz => absurd hz (fun q => by rw [Int32.le_iff_toInt_le, pk_sub_toInt ha hc, nI_toInt (by decide)] at q; omega)) (fun _ => ?_)
    refine ax_iload_n (pc' := 6) rfl dX8_larger_5 rfl ?_
    refine ax_goto (tgt := 10) dX8_larger_6 (by decide) ?_
    exact ax_iret dX8_larger_10 rfl (Nat.le_of_ble_eq_true rfl) (Nat.le_of_ble_eq_true rfl) (⟨by rw [pk_sub (by omega)], rfl⟩)
  · refine ax_icmp_ge (pc' := 5) (tgt := 9) dX8_larger_2 (by decide) rfl (fun _ => ?_) (fun hz => absurd (by rw [Int32.le_iff_toInt_le, pk_sub_toInt ha hc, nI_toInt (by decide)]; omega) hz)
    refine ax_iload_n (pc' := 10) rfl dX8_larger_9 rfl ?_
    exact ax_iret dX8_larger_10 rfl (Nat.le_of_ble_eq_true rfl) (Nat.le_of_ble_eq_true rfl) (⟨by rw [show a - c = 0 by omega], rfl⟩)
theorem sp_shr_ok : ∀ s, s < 512 → ∀ k, k < 9 → (nI s >>> (nI k &&& 31)) &&& nI 1 = nI (s / 2 ^ k % 2) := by decide +kernel
theorem m_has {s k : Nat} (hs : s < 512) (hk : k < 9) : ax_R mX8_has 0 [.int (nI s), .int (nI k)] σ (.int (nI (sp_bl (sp_has s k)))) := by
  refine ax_N.of (ls := [some (.int (nI s)), some (.int (nI k))]) (by decide +kernel) rfl (Nat.le_of_ble_eq_true rfl) ?_
  refine ax_iload_n (pc' := 1) rfl dX8_has_0 rfl ?_
  refine ax_iload_n (pc' := 2) rfl dX8_has_1 rfl ?_
  refine ax_ishr (pc' := 3) dX8_has_2 rfl ?_
  refine ax_iconst (pc' := 4) (v := (nI 1)) kc_1 dX8_has_3 rfl ?_
  refine ax_iand (pc' := 5) dX8_has_4 rfl ?_
  refine ax_topi (sp_shr_ok s hs k hk) ?_
  refine ax_iconst (pc' := 6) (v := (nI 1)) kc_1 dX8_has_5 rfl ?_
  by_cases h : s / 2 ^ k % 2 = 1
  · refine ax_icmp_ne (pc' := 9) (tgt := 13) dX8_has_6 (by decide) rfl (fun hz => absurd (by rw [h]) hz) (fun _ => ?_)
    refine ax_iconst (pc' := 10) (v := (nI 1)) kc_1 dX8_has_9 rfl ?_
    refine ax_goto (tgt := 14) dX8_has_10 (by decide) ?_
    exact ax_zret dX8_has_14 rfl (by decide) (Nat.le_of_ble_eq_true rfl) (Nat.le_of_ble_eq_true rfl) (⟨by simp [sp_has, sp_bl, h], rfl⟩)
  · refine ax_icmp_ne (pc' := 9) (tgt := 13) dX8_has_6 (by decide) rfl (fun _ => ?_) (fun hz => absurd hz (fun q => h ((nI_eq (by omega) (by omega)).mp q)))
    refine ax_iconst (pc' := 14) (v := (nI 0)) kc_0 dX8_has_13 rfl ?_
    exact ax_zret dX8_has_14 rfl (by decide) (Nat.le_of_ble_eq_true rfl) (Nat.le_of_ble_eq_true rfl) (⟨by simp [sp_has, sp_bl, h], rfl⟩)
theorem m_bits {s : Nat} (hs : s < 512) : ax_R mX8_bits 0 [.int (nI s)] σ (.int (nI (sp_bits s 9))) := by
  refine ax_N.of (ls := [some (.int (nI s)), none, none]) (by decide +kernel) rfl (Nat.le_of_ble_eq_true rfl) ?_
  refine ax_iconst (pc' := 1) (v := (nI 0)) kc_0 dX8_bits_0 rfl ?_
  refine ax_istore_n (pc' := 2) rfl (Nat.le_of_ble_eq_true rfl) dX8_bits_1 rfl ?_
  refine ax_iconst (pc' := 3) (v := (nI 0)) kc_0 dX8_bits_2 rfl ?_
  refine ax_istore_n (pc' := 4) rfl (Nat.le_of_ble_eq_true rfl) dX8_bits_3 rfl ?_
  have K : ∀ m i, i + m = 9 → ax_J (mX8_bits, 0, 0, 0) 0 0 4 [some (.int (nI s)), some (.int (nI (sp_bits s i))), some (.int (nI i))] [] σ (fun r σ' => r = some (.int (nI (sp_bits s 9))) ∧ σ' = σ) := by
    intro m
    induction m with
    | zero =>
      intro i hi
      have hi : i = 9 := hi
      subst hi
      refine ax_iload_n (pc' := 5) rfl dX8_bits_4 rfl ?_
      refine ax_bipush (pc' := 7) (v := (nI 9)) kb_9 dX8_bits_5 rfl ?_
      refine ax_icmp_ge (pc' := 10) (tgt := 24) dX8_bits_7 (by decide) rfl (fun _ => ?_) (fun hz => absurd ((by decide)) hz)
      refine ax_iload_n (pc' := 25) rfl dX8_bits_24 rfl ?_
      exact ax_iret dX8_bits_25 rfl (Nat.le_of_ble_eq_true rfl) (Nat.le_of_ble_eq_true rfl) (⟨rfl, rfl⟩)
    | succ m ih =>
      intro i hi
      refine ax_iload_n (pc' := 5) rfl dX8_bits_4 rfl ?_
      refine ax_bipush (pc' := 7) (v := (nI 9)) kb_9 dX8_bits_5 rfl ?_
      refine ax_icmp_ge (pc' := 10) (tgt := 24) dX8_bits_7 (by decide) rfl (fun hz => absurd hz (nI_ge (by omega) (by decide))) (fun _ => ?_)
      refine ax_iload_n (pc' := 11) rfl dX8_bits_10 rfl ?_
      refine ax_iload_n (pc' := 12) rfl dX8_bits_11 rfl ?_
      refine ax_iload_n (pc' := 13) rfl dX8_bits_12 rfl ?_
      refine ax_ishr (pc' := 14) dX8_bits_13 rfl ?_
      refine ax_iconst (pc' := 15) (v := (nI 1)) kc_1 dX8_bits_14 rfl ?_
      refine ax_iand (pc' := 16) dX8_bits_15 rfl ?_
      refine ax_topi (sp_shr_ok s hs i (by omega)) ?_
      refine ax_iadd (pc' := 17) dX8_bits_16 rfl ?_
      refine ax_topi (v' := nI (sp_bits s (i + 1))) (by rw [nI_add]; rfl) ?_
      refine ax_istore_n (pc' := 18) rfl (Nat.le_of_ble_eq_true rfl) dX8_bits_17 rfl ?_
      refine ax_iinc1 (pc' := 21) rfl rfl (Nat.le_of_ble_eq_true rfl) dX8_bits_18 rfl ?_
      refine ax_goto (tgt := 4) dX8_bits_21 (by decide) ?_
      exact ih (i + 1) (by omega)
  exact K 9 0 (by decide)
theorem m_tells {kd u m : Nat} (hk : kd ≤ 3) (h0 : 0 < u) (hu : u ≤ 9) (hm : m ≤ 2000) : ax_R mX8_tells 0 [.int (nI kd), .int (nI m), .int (nI u)] σ (.int (nI (sp_tells kd u m))) := by
  have hq := sp_div10 (u := u) hm
  refine ax_N.of (ls := [some (.int (nI kd)), some (.int (nI m)), some (.int (nI u)), none]) (by decide +kernel) rfl (Nat.le_of_ble_eq_true rfl) ?_
  refine ax_iload_n (pc' := 1) rfl dX8_tells_0 rfl ?_
  refine ax_bipush (pc' := 3) (v := (nI 10)) kb_10 dX8_tells_1 rfl ?_
  refine ax_imul (pc' := 4) dX8_tells_3 rfl ?_
  refine ax_topi (v' := nI (10 * m)) (by rw [pk_mul, Nat.mul_comm]) ?_
  refine ax_iload_n (pc' := 5) rfl dX8_tells_4 rfl ?_
  refine ax_idiv (pc' := 6) (nI_ne0 h0 (by omega)) dX8_tells_5 rfl ?_
  refine ax_topi (pk_div (by omega) h0 (by omega)) ?_
  refine ax_istore_n (pc' := 7) rfl (Nat.le_of_ble_eq_true rfl) dX8_tells_6 rfl ?_
  refine ax_iload_n (pc' := 8) rfl dX8_tells_7 rfl ?_
  refine ax_iconst (pc' := 9) (v := (nI 1)) kc_1 dX8_tells_8 rfl ?_
  by_cases k1 : kd = 1
  · refine ax_icmp_ne (pc' := 12) (tgt := 24) dX8_tells_9 (by decide) rfl (fun hz => absurd (by rw [k1]) hz) (fun _ => ?_)
    refine ax_iload_n (pc' := 13) rfl dX8_tells_12 rfl ?_
    refine ax_iconst (pc' := 14) (v := (nI 5)) kc_5 dX8_tells_13 rfl ?_
    refine ax_iadd (pc' := 15) dX8_tells_14 rfl ?_
    refine ax_topi (nI_add _ 5) ?_
    refine ax_bipush (pc' := 17) (v := (nI 10)) kb_10 dX8_tells_15 rfl ?_
    refine ax_idiv (pc' := 18) (by decide) dX8_tells_17 rfl ?_
    refine ax_topi (pk_div (by omega) (by decide) (by decide)) ?_
    refine ax_bipush (pc' := 20) (v := (nI 10)) kb_10 dX8_tells_18 rfl ?_
    refine ax_imul (pc' := 21) dX8_tells_20 rfl ?_
    refine ax_topi (pk_mul _ 10) ?_
    refine ax_goto (tgt := 40) dX8_tells_21 (by decide) ?_
    exact ax_iret dX8_tells_40 rfl (Nat.le_of_ble_eq_true rfl) (Nat.le_of_ble_eq_true rfl) (⟨by simp only [sp_tells, k1, if_true], rfl⟩)
  · refine ax_icmp_ne (pc' := 12) (tgt := 24) dX8_tells_9 (by decide) rfl (fun _ => ?_) (fun hz => absurd hz (fun h => k1 ((nI_eq (by omega) (by omega)).mp h)))
    refine ax_iload_n (pc' := 25) rfl dX8_tells_24 rfl ?_
    refine ax_iconst (pc' := 26) (v := (nI 2)) kc_2 dX8_tells_25 rfl ?_
    by_cases k2 : kd = 2
    · refine ax_icmp_ne (pc' := 29) (tgt := 39) dX8_tells_26 (by decide) rfl (fun hz => absurd (by rw [k2]) hz) (fun _ => ?_)
      refine ax_iload_n (pc' := 30) rfl dX8_tells_29 rfl ?_
      refine ax_bipush (pc' := 32) (v := (nI 9)) kb_9 dX8_tells_30 rfl ?_
      refine ax_imul (pc' := 33) dX8_tells_32 rfl ?_
      refine ax_topi (v' := nI (9 * (10 * m / u))) (by rw [pk_mul, Nat.mul_comm]) ?_
      refine ax_bipush (pc' := 35) (v := (nI 10)) kb_10 dX8_tells_33 rfl ?_
      refine ax_idiv (pc' := 36) (by decide) dX8_tells_35 rfl ?_
      refine ax_topi (pk_div (by omega) (by decide) (by decide)) ?_
      refine ax_goto (tgt := 40) dX8_tells_36 (by decide) ?_
      exact ax_iret dX8_tells_40 rfl (Nat.le_of_ble_eq_true rfl) (Nat.le_of_ble_eq_true rfl) (⟨by simp [sp_tells, k2], rfl⟩)
    · refine ax_icmp_ne (pc' := 29) (tgt := 39) dX8_tells_26 (by decide) rfl (fun _ => ?_) (fun hz => absurd hz (fun h => k2 ((nI_eq (by omega) (by omega)).mp h)))
      refine ax_iload_n (pc' := 40) rfl dX8_tells_39 rfl ?_
      exact ax_iret dX8_tells_40 rfl (Nat.le_of_ble_eq_true rfl) (Nat.le_of_ble_eq_true rfl) (⟨by simp only [sp_tells, k1, k2, if_false], rfl⟩)
/-- degrees as the model counts them: d less 2 may be none -/
theorem m_girthOf {n u d : Nat} {v : Int32} (hn : n ≤ 13300) (hu : u ≤ 9) (hd : d ≤ 1000) (hv : (0 < d ∧ v = nI d) ∨ (d = 0 ∧ v ≤ 0)) : ax_R mX8_girthOf 0 [.ref 56, .int (nI n), .int (nI u), .int v] σ (.int (sp_en (sp_go n u d))) := by
  have hq := sp_go_lt (d := d) hn hu
  refine ax_N.of (ls := [some (.ref 56), some (.int (nI n)), some (.int (nI u)), some (.int v)]) (by decide +kernel) rfl (Nat.le_of_ble_eq_true rfl) ?_
  refine ax_iload_n (pc' := 1) rfl dX8_girthOf_0 rfl ?_
  refine ax_iconst (pc' := 2) (v := (nI 1)) kc_1 dX8_girthOf_1 rfl ?_
  rcases hv with ⟨h0, rfl⟩ | ⟨rfl, h0⟩
  · refine ax_icmp_ge (pc' := 5) (tgt := 10) dX8_girthOf_2 (by decide) rfl (fun _ => ?_) (fun hz => absurd (nI_le h0 (by omega)) hz)
    refine ax_iload_n (pc' := 11) rfl dX8_girthOf_10 rfl ?_
    refine ax_iload_n (pc' := 12) rfl dX8_girthOf_11 rfl ?_
    refine ax_imul (pc' := 13) dX8_girthOf_12 rfl ?_
    refine ax_bipush (pc' := 15) (v := (nI 36)) kb_36 dX8_girthOf_13 rfl ?_
    refine ax_imul (pc' := 16) dX8_girthOf_15 rfl ?_
    refine ax_topi (v' := nI (36 * n * u)) (by rw [pk_mul, pk_mul]; congr 1; rw [Nat.mul_comm, Nat.mul_assoc]) ?_
    refine ax_iload_n (pc' := 17) rfl dX8_girthOf_16 rfl ?_
    refine ax_idiv (pc' := 18) (nI_ne0 h0 (by omega)) dX8_girthOf_17 rfl ?_
    refine ax_topi (pk_div (by omega) h0 (by omega)) ?_
    exact ax_iret dX8_girthOf_18 rfl (Nat.le_of_ble_eq_true rfl) (Nat.le_of_ble_eq_true rfl) (⟨by simp only [sp_go, if_neg (show ¬ d = 0 by omega), sp_en], rfl⟩)
  · refine ax_icmp_ge (pc' := 5) (tgt := 10) dX8_girthOf_2 (by decide) rfl (fun hz => absurd hz (fun h => by rw [Int32.le_iff_toInt_le] at h h0; rw [nI_toInt (by decide)] at h; rw [Int32.toInt_zero] at h0; omega)) (fun _ => ?_)
    refine ax_bipush (pc' := 7) (v := (-4)) kb_m4 dX8_girthOf_5 rfl ?_
    refine ax_goto (tgt := 18) dX8_girthOf_7 (by decide) ?_
    exact ax_iret dX8_girthOf_18 rfl (Nat.le_of_ble_eq_true rfl) (Nat.le_of_ble_eq_true rfl) (⟨by simp only [sp_go, if_true, sp_en], rfl⟩)
/-! who and where -/
theorem m_isTownT {j : Nat} (hM : ml_At σ.1 b f) (hb : sp_ok b) (hj : j < b.2.1) : ax_R mX8_isTown 1 [.ref 56, .int (nI j)] σ (.int (nI 1)) := by
  obtain ⟨⟨ng, nt, nw, ac, kp, ln, ap, bg, wr, se, M_o⟩, ⟨fl, fn, fb, fk, fp, fu, M_north, M_lean, M_bend, M_sort, M_pace, M_unit, r1, r2, r3⟩, M_slot⟩ := id hM
  have h6 := hb.2.1
  refine ax_N.of (ls := [some (.ref 56), some (.int (nI j))]) (by decide +kernel) rfl (Nat.le_of_ble_eq_true rfl) ?_
  refine ax_iload_n (pc' := 1) rfl dX8_isTown_0 rfl ?_
  refine ax_i2l (pc' := 2) dX8_isTown_1 rfl ?_
  refine ax_lconst (pc' := 3) (v := lN 0) rfl dX8_isTown_2 rfl ?_
  refine ax_aload_n (pc' := 4) rfl dX8_isTown_3 rfl ?_
  refine ax_getf (pc' := 7) fl_X8_95 M_o rfl dX8_isTown_4 rfl ?_
  refine ax_iconst (pc' := 8) (v := (nI 1)) kc_1 dX8_isTown_7 rfl ?_
  refine ax_isub (pc' := 9) dX8_isTown_8 rfl ?_
  refine ax_i2l (pc' := 10) dX8_isTown_9 rfl ?_
  refine ax_callSR (pc' := 13) ls_X8_101 (m_inT ((il_ix (by omega)).mpr ⟨j, hj, rfl⟩).1 ((il_ix (by omega)).mpr ⟨j, hj, rfl⟩).2) rfl rfl (Nat.le_of_ble_eq_true rfl) (Nat.le_of_ble_eq_true rfl) dX8_isTown_10 rfl ?_
  exact ax_zret dX8_isTown_13 rfl (by decide) (Nat.le_of_ble_eq_true rfl) (Nat.le_of_ble_eq_true rfl) (⟨rfl, rfl⟩)
theorem m_isTownF {v : Int32} (hM : ml_At σ.1 b f) (hb : sp_ok b) (hv : ¬ ∃ j, j < b.2.1 ∧ v = nI j) : ax_R mX8_isTown 1 [.ref 56, .int v] σ (.int (nI 0)) := by
  obtain ⟨⟨ng, nt, nw, ac, kp, ln, ap, bg, wr, se, M_o⟩, ⟨fl, fn, fb, fk, fp, fu, M_north, M_lean, M_bend, M_sort, M_pace, M_unit, r1, r2, r3⟩, M_slot⟩ := id hM
  have h6 := hb.2.1
  refine ax_N.of (ls := [some (.ref 56), some (.int v)]) (by decide +kernel) rfl (Nat.le_of_ble_eq_true rfl) ?_
  refine ax_iload_n (pc' := 1) rfl dX8_isTown_0 rfl ?_
  refine ax_i2l (pc' := 2) dX8_isTown_1 rfl ?_
  refine ax_lconst (pc' := 3) (v := lN 0) rfl dX8_isTown_2 rfl ?_
  refine ax_aload_n (pc' := 4) rfl dX8_isTown_3 rfl ?_
  refine ax_getf (pc' := 7) fl_X8_95 M_o rfl dX8_isTown_4 rfl ?_
  refine ax_iconst (pc' := 8) (v := (nI 1)) kc_1 dX8_isTown_7 rfl ?_
  refine ax_isub (pc' := 9) dX8_isTown_8 rfl ?_
  refine ax_i2l (pc' := 10) dX8_isTown_9 rfl ?_
  refine ax_callSR (pc' := 13) ls_X8_101 (m_inF (fun q => hv ((il_ix (by omega)).mp q))) rfl rfl (Nat.le_of_ble_eq_true rfl) (Nat.le_of_ble_eq_true rfl) dX8_isTown_10 rfl ?_
  exact ax_zret dX8_isTown_13 rfl (by decide) (Nat.le_of_ble_eq_true rfl) (Nat.le_of_ble_eq_true rfl) (⟨rfl, rfl⟩)
theorem m_isWalkerT {j : Nat} (hM : ml_At σ.1 b f) (hb : sp_ok b) (hj : j < b.2.2.1) : ax_R mX8_isWalker 1 [.ref 56, .int (nI j)] σ (.int (nI 1)) := by
  obtain ⟨⟨ng, nt, nw, ac, kp, ln, ap, bg, wr, se, M_o⟩, ⟨fl, fn, fb, fk, fp, fu, M_north, M_lean, M_bend, M_sort, M_pace, M_unit, r1, r2, r3⟩, M_slot⟩ := id hM
  have h6 := hb.2.2.1
  refine ax_N.of (ls := [some (.ref 56), some (.int (nI j))]) (by decide +kernel) rfl (Nat.le_of_ble_eq_true rfl) ?_
  refine ax_iload_n (pc' := 1) rfl dX8_isWalker_0 rfl ?_
  refine ax_i2l (pc' := 2) dX8_isWalker_1 rfl ?_
  refine ax_lconst (pc' := 3) (v := lN 0) rfl dX8_isWalker_2 rfl ?_
  refine ax_aload_n (pc' := 4) rfl dX8_isWalker_3 rfl ?_
  refine ax_getf (pc' := 7) fl_X8_98 M_o rfl dX8_isWalker_4 rfl ?_
  refine ax_iconst (pc' := 8) (v := (nI 1)) kc_1 dX8_isWalker_7 rfl ?_
  refine ax_isub (pc' := 9) dX8_isWalker_8 rfl ?_
  refine ax_i2l (pc' := 10) dX8_isWalker_9 rfl ?_
  refine ax_callSR (pc' := 13) ls_X8_101 (m_inT ((il_ix (by omega)).mpr ⟨j, hj, rfl⟩).1 ((il_ix (by omega)).mpr ⟨j, hj, rfl⟩).2) rfl rfl (Nat.le_of_ble_eq_true rfl) (Nat.le_of_ble_eq_true rfl) dX8_isWalker_10 rfl ?_
  exact ax_zret dX8_isWalker_13 rfl (by decide) (Nat.le_of_ble_eq_true rfl) (Nat.le_of_ble_eq_true rfl) (⟨rfl, rfl⟩)
theorem m_isWalkerF {v : Int32} (hM : ml_At σ.1 b f) (hb : sp_ok b) (hv : ¬ ∃ j, j < b.2.2.1 ∧ v = nI j) : ax_R mX8_isWalker 1 [.ref 56, .int v] σ (.int (nI 0)) := by
  obtain ⟨⟨ng, nt, nw, ac, kp, ln, ap, bg, wr, se, M_o⟩, ⟨fl, fn, fb, fk, fp, fu, M_north, M_lean, M_bend, M_sort, M_pace, M_unit, r1, r2, r3⟩, M_slot⟩ := id hM
  have h6 := hb.2.2.1
  refine ax_N.of (ls := [some (.ref 56), some (.int v)]) (by decide +kernel) rfl (Nat.le_of_ble_eq_true rfl) ?_
  refine ax_iload_n (pc' := 1) rfl dX8_isWalker_0 rfl ?_
  refine ax_i2l (pc' := 2) dX8_isWalker_1 rfl ?_
  refine ax_lconst (pc' := 3) (v := lN 0) rfl dX8_isWalker_2 rfl ?_
  refine ax_aload_n (pc' := 4) rfl dX8_isWalker_3 rfl ?_
  refine ax_getf (pc' := 7) fl_X8_98 M_o rfl dX8_isWalker_4 rfl ?_
  refine ax_iconst (pc' := 8) (v := (nI 1)) kc_1 dX8_isWalker_7 rfl ?_
  refine ax_isub (pc' := 9) dX8_isWalker_8 rfl ?_
  refine ax_i2l (pc' := 10) dX8_isWalker_9 rfl ?_
  refine ax_callSR (pc' := 13) ls_X8_101 (m_inF (fun q => hv ((il_ix (by omega)).mp q))) rfl rfl (Nat.le_of_ble_eq_true rfl) (Nat.le_of_ble_eq_true rfl) dX8_isWalker_10 rfl ?_
  exact ax_zret dX8_isWalker_13 rfl (by decide) (Nat.le_of_ble_eq_true rfl) (Nat.le_of_ble_eq_true rfl) (⟨rfl, rfl⟩)
theorem m_isReportT {j dy : Nat} {rs : List sp_rep} (hM : ml_At σ.1 b f) (hL : sl_At f 0 rs dy) (h9 : rs.length ≤ 9) (hj : j < rs.length) : ax_R mX8_isReport 1 [.ref 56, .int (nI j)] σ (.int (nI 1)) := by
  obtain ⟨⟨ng, nt, nw, ac, kp, ln, ap, bg, wr, se, M_o⟩, ⟨fl, fn, fb, fk, fp, fu, M_north, M_lean, M_bend, M_sort, M_pace, M_unit, r1, r2, r3⟩, M_slot⟩ := id hM
  refine ax_N.of (ls := [some (.ref 56), some (.int (nI j))]) (by decide +kernel) rfl (Nat.le_of_ble_eq_true rfl) ?_
  refine ax_iload_n (pc' := 1) rfl dX8_isReport_0 rfl ?_
  refine ax_i2l (pc' := 2) dX8_isReport_1 rfl ?_
  refine ax_lconst (pc' := 3) (v := lN 0) rfl dX8_isReport_2 rfl ?_
  refine ax_aload_n (pc' := 4) rfl dX8_isReport_3 rfl ?_
  refine ax_getf (pc' := 7) fl_X8_46 M_o rfl dX8_isReport_4 rfl ?_
  refine ax_bipush (pc' := 9) (v := (nI 36)) kb_36 dX8_isReport_7 rfl ?_
  refine ax_iald (pc' := 10) M_slot rfl (by omega) (by first | decide | assumption | omega) dX8_isReport_9 rfl ?_
  refine ax_topi hL.1 ?_
  refine ax_iconst (pc' := 11) (v := (nI 1)) kc_1 dX8_isReport_10 rfl ?_
  refine ax_isub (pc' := 12) dX8_isReport_11 rfl ?_
  refine ax_i2l (pc' := 13) dX8_isReport_12 rfl ?_
  refine ax_callSR (pc' := 16) ls_X8_101 (m_inT ((il_ix (by omega)).mpr ⟨j, hj, rfl⟩).1 ((il_ix (by omega)).mpr ⟨j, hj, rfl⟩).2) rfl rfl (Nat.le_of_ble_eq_true rfl) (Nat.le_of_ble_eq_true rfl) dX8_isReport_13 rfl ?_
  exact ax_zret dX8_isReport_16 rfl (by decide) (Nat.le_of_ble_eq_true rfl) (Nat.le_of_ble_eq_true rfl) (⟨rfl, rfl⟩)
theorem m_isReportF {v : Int32} {dy : Nat} {rs : List sp_rep} (hM : ml_At σ.1 b f) (hL : sl_At f 0 rs dy) (h9 : rs.length ≤ 9) (hv : ¬ ∃ j, j < rs.length ∧ v = nI j) : ax_R mX8_isReport 1 [.ref 56, .int v] σ (.int (nI 0)) := by
  obtain ⟨⟨ng, nt, nw, ac, kp, ln, ap, bg, wr, se, M_o⟩, ⟨fl, fn, fb, fk, fp, fu, M_north, M_lean, M_bend, M_sort, M_pace, M_unit, r1, r2, r3⟩, M_slot⟩ := id hM
  refine ax_N.of (ls := [some (.ref 56), some (.int v)]) (by decide +kernel) rfl (Nat.le_of_ble_eq_true rfl) ?_
  refine ax_iload_n (pc' := 1) rfl dX8_isReport_0 rfl ?_
  refine ax_i2l (pc' := 2) dX8_isReport_1 rfl ?_
  refine ax_lconst (pc' := 3) (v := lN 0) rfl dX8_isReport_2 rfl ?_
  refine ax_aload_n (pc' := 4) rfl dX8_isReport_3 rfl ?_
  refine ax_getf (pc' := 7) fl_X8_46 M_o rfl dX8_isReport_4 rfl ?_
  refine ax_bipush (pc' := 9) (v := (nI 36)) kb_36 dX8_isReport_7 rfl ?_
  refine ax_iald (pc' := 10) M_slot rfl (by omega) (by first | decide | assumption | omega) dX8_isReport_9 rfl ?_
  refine ax_topi hL.1 ?_
  refine ax_iconst (pc' := 11) (v := (nI 1)) kc_1 dX8_isReport_10 rfl ?_
  refine ax_isub (pc' := 12) dX8_isReport_11 rfl ?_
  refine ax_i2l (pc' := 13) dX8_isReport_12 rfl ?_
  refine ax_callSR (pc' := 16) ls_X8_101 (m_inF (fun q => hv ((il_ix (by omega)).mp q))) rfl rfl (Nat.le_of_ble_eq_true rfl) (Nat.le_of_ble_eq_true rfl) dX8_isReport_13 rfl ?_
  exact ax_zret dX8_isReport_16 rfl (by decide) (Nat.le_of_ble_eq_true rfl) (Nat.le_of_ble_eq_true rfl) (⟨rfl, rfl⟩)
theorem m_areTownsT {a c : Nat} (hM : ml_At σ.1 b f) (hb : sp_ok b) (ha : a < b.2.1) (hc : c < b.2.1) (hac : a ≠ c) : ax_R mX8_areTowns 2 [.ref 56, .int (nI a), .int (nI c)] σ (.int (nI 1)) := by
  obtain ⟨⟨ng, nt, nw, ac, kp, ln, ap, bg, wr, se, M_o⟩, ⟨fl, fn, fb, fk, fp, fu, M_north, M_lean, M_bend, M_sort, M_pace, M_unit, r1, r2, r3⟩, M_slot⟩ := id hM
  have h6 := hb.2.1
  refine ax_N.of (ls := [some (.ref 56), some (.int (nI a)), some (.int (nI c))]) (by decide +kernel) rfl (Nat.le_of_ble_eq_true rfl) ?_
  refine ax_aload_n (pc' := 1) rfl dX8_areTowns_0 rfl ?_
  refine ax_iload_n (pc' := 2) rfl dX8_areTowns_1 rfl ?_
  refine ax_callVR (pc' := 5) lv_X8_105 (m_isTownT hM hb ha) M_o rfl rfl (Nat.le_of_ble_eq_true rfl) (Nat.le_of_ble_eq_true rfl) dX8_areTowns_2 rfl ?_
  refine ax_if_eq (pc' := 8) (tgt := 25) dX8_areTowns_5 (by decide) rfl (fun hz => absurd hz (kz_1)) (fun _ => ?_)
  refine ax_aload_n (pc' := 9) rfl dX8_areTowns_8 rfl ?_
  refine ax_iload_n (pc' := 10) rfl dX8_areTowns_9 rfl ?_
  refine ax_callVR (pc' := 13) lv_X8_105 (m_isTownT hM hb hc) M_o rfl rfl (Nat.le_of_ble_eq_true rfl) (Nat.le_of_ble_eq_true rfl) dX8_areTowns_10 rfl ?_
  refine ax_if_eq (pc' := 16) (tgt := 25) dX8_areTowns_13 (by decide) rfl (fun hz => absurd hz (kz_1)) (fun _ => ?_)
  refine ax_iload_n (pc' := 17) rfl dX8_areTowns_16 rfl ?_
  refine ax_iload_n (pc' := 18) rfl dX8_areTowns_17 rfl ?_
  refine ax_icmp_eq (pc' := 21) (tgt := 25) dX8_areTowns_18 (by decide) rfl (fun hz => absurd hz (fun h => hac ((nI_eq (by omega) (by omega)).mp h))) (fun _ => ?_)
  refine ax_iconst (pc' := 22) (v := (nI 1)) kc_1 dX8_areTowns_21 rfl ?_
  refine ax_goto (tgt := 26) dX8_areTowns_22 (by decide) ?_
  exact ax_zret dX8_areTowns_26 rfl (by decide) (Nat.le_of_ble_eq_true rfl) (Nat.le_of_ble_eq_true rfl) (⟨rfl, rfl⟩)
theorem m_areTownsF {v u : Int32} (hM : ml_At σ.1 b f) (hb : sp_ok b) (hv : ¬ ∃ a c, a < b.2.1 ∧ c < b.2.1 ∧ a ≠ c ∧ v = nI a ∧ u = nI c) : ax_R mX8_areTowns 2 [.ref 56, .int v, .int u] σ (.int (nI 0)) := by
  obtain ⟨⟨ng, nt, nw, ac, kp, ln, ap, bg, wr, se, M_o⟩, ⟨fl, fn, fb, fk, fp, fu, M_north, M_lean, M_bend, M_sort, M_pace, M_unit, r1, r2, r3⟩, M_slot⟩ := id hM
  have h6 := hb.2.1
  refine ax_N.of (ls := [some (.ref 56), some (.int v), some (.int u)]) (by decide +kernel) rfl (Nat.le_of_ble_eq_true rfl) ?_
  refine ax_aload_n (pc' := 1) rfl dX8_areTowns_0 rfl ?_
  refine ax_iload_n (pc' := 2) rfl dX8_areTowns_1 rfl ?_
  by_cases h1 : ∃ j, j < b.2.1 ∧ v = nI j
  · obtain ⟨a, ha, rfl⟩ := h1
    refine ax_callVR (pc' := 5) lv_X8_105 (m_isTownT hM hb ha) M_o rfl rfl (Nat.le_of_ble_eq_true rfl) (Nat.le_of_ble_eq_true rfl) dX8_areTowns_2 rfl ?_
    refine ax_if_eq (pc' := 8) (tgt := 25) dX8_areTowns_5 (by decide) rfl (fun hz => absurd hz (kz_1)) (fun _ => ?_)
    refine ax_aload_n (pc' := 9) rfl dX8_areTowns_8 rfl ?_
    refine ax_iload_n (pc' := 10) rfl dX8_areTowns_9 rfl ?_
    by_cases h2 : ∃ j, j < b.2.1 ∧ u = nI j
    · obtain ⟨c, hc, rfl⟩ := h2
      refine ax_callVR (pc' := 13) lv_X8_105 (m_isTownT hM hb hc) M_o rfl rfl (Nat.le_of_ble_eq_true rfl) (Nat.le_of_ble_eq_true rfl) dX8_areTowns_10 rfl ?_
      refine ax_if_eq (pc' := 16) (tgt := 25) dX8_areTowns_13 (by decide) rfl (fun hz => absurd hz (kz_1)) (fun _ => ?_)
      refine ax_iload_n (pc' := 17) rfl dX8_areTowns_16 rfl ?_
      refine ax_iload_n (pc' := 18) rfl dX8_areTowns_17 rfl ?_
      refine ax_icmp_eq (pc' := 21) (tgt := 25) dX8_areTowns_18 (by decide) rfl (fun _ => ?_) (fun hz => absurd (by rw [Classical.byContradiction (fun q : ¬ a = c => hv ⟨a, c, ha, hc, q, rfl, rfl⟩)]) hz)
      refine ax_iconst (pc' := 26) (v := (nI 0)) kc_0 dX8_areTowns_25 rfl ?_
      exact ax_zret dX8_areTowns_26 rfl (by decide) (Nat.le_of_ble_eq_true rfl) (Nat.le_of_ble_eq_true rfl) (⟨rfl, rfl⟩)
    · refine ax_callVR (pc' := 13) lv_X8_105 (m_isTownF hM hb h2) M_o rfl rfl (Nat.le_of_ble_eq_true rfl) (Nat.le_of_ble_eq_true rfl) dX8_areTowns_10 rfl ?_
      refine ax_if_eq (pc' := 16) (tgt := 25) dX8_areTowns_13 (by decide) rfl (fun _ => ?_) (fun hz => absurd (kz_0) hz)
      refine ax_iconst (pc' := 26) (v := (nI 0)) kc_0 dX8_areTowns_25 rfl ?_
      exact ax_zret dX8_areTowns_26 rfl (by decide) (Nat.le_of_ble_eq_true rfl) (Nat.le_of_ble_eq_true rfl) (⟨rfl, rfl⟩)
  · refine ax_callVR (pc' := 5) lv_X8_105 (m_isTownF hM hb h1) M_o rfl rfl (Nat.le_of_ble_eq_true rfl) (Nat.le_of_ble_eq_true rfl) dX8_areTowns_2 rfl ?_
    refine ax_if_eq (pc' := 8) (tgt := 25) dX8_areTowns_5 (by decide) rfl (fun _ => ?_) (fun hz => absurd (kz_0) hz)
    refine ax_iconst (pc' := 26) (v := (nI 0)) kc_0 dX8_areTowns_25 rfl ?_
    exact ax_zret dX8_areTowns_26 rfl (by decide) (Nat.le_of_ble_eq_true rfl) (Nat.le_of_ble_eq_true rfl) (⟨rfl, rfl⟩)
/-! ways and girths -/
theorem m_shadow {t : Nat} (hM : ml_At σ.1 b f) (hb : sp_ok b) (ht : t < b.2.1) : ax_R mX8_shadow 1 [.ref 56, .int (nI t)] σ (.int (nI (sp_sh b t))) := by
  obtain ⟨⟨ng, nt, nw, ac, kp, ln, ap, bg, wr, se, M_o⟩, ⟨fl, fn, fb, fk, fp, fu, M_north, M_lean, M_bend, M_sort, M_pace, M_unit, r1, r2, r3⟩, M_slot⟩ := id hM
  have h6 := hb.2.1
  obtain ⟨hL, hW⟩ := hb.2.2.2.1 t
  refine ax_N.of (ls := [some (.ref 56), some (.int (nI t))]) (by decide +kernel) rfl (Nat.le_of_ble_eq_true rfl) ?_
  refine ax_iconst (pc' := 1) (v := (nI 0)) kc_0 dX8_shadow_0 rfl ?_
  refine ax_aload_n (pc' := 2) rfl dX8_shadow_1 rfl ?_
  refine ax_getf (pc' := 5) fl_X8_7 M_o rfl dX8_shadow_2 rfl ?_
  refine ax_iload_n (pc' := 6) rfl dX8_shadow_5 rfl ?_
  refine ax_iald (pc' := 7) M_north rfl (by omega) (by first | decide | assumption | omega) dX8_shadow_6 rfl ?_
  refine ax_aload_n (pc' := 8) rfl dX8_shadow_7 rfl ?_
  refine ax_getf (pc' := 11) fl_X8_13 M_o rfl dX8_shadow_8 rfl ?_
  refine ax_iload_n (pc' := 12) rfl dX8_shadow_11 rfl ?_
  refine ax_iald (pc' := 13) M_lean rfl (by omega) (by first | decide | assumption | omega) dX8_shadow_12 rfl ?_
  refine ax_iadd (pc' := 14) dX8_shadow_13 rfl ?_
  refine ax_topi (v' := nI (sp_L b t + sp_W b t) - nI 4) (by rw [(r1 t ht).1, (r1 t ht).2, ← nI_add, Int32.sub_eq_add_neg, Int32.sub_eq_add_neg, Int32.add_assoc]) ?_
  refine ax_callSR (pc' := 17) ls_X8_158 (m_larger0 (a := sp_L b t + sp_W b t) (c := 4) (by omega) (by omega) rfl) rfl rfl (Nat.le_of_ble_eq_true rfl) (Nat.le_of_ble_eq_true rfl) dX8_shadow_14 rfl ?_
  exact ax_iret dX8_shadow_17 rfl (Nat.le_of_ble_eq_true rfl) (Nat.le_of_ble_eq_true rfl) (⟨rfl, rfl⟩)
theorem m_straight {a c : Nat} (hM : ml_At σ.1 b f) (hb : sp_ok b) (ha : a < b.2.1) (hc : c < b.2.1) : ax_R mX8_straight 1 [.ref 56, .int (nI a), .int (nI c)] σ (.int (nI (sp_str b a c))) := by
  obtain ⟨⟨ng, nt, nw, ac, kp, ln, ap, bg, wr, se, M_o⟩, ⟨fl, fn, fb, fk, fp, fu, M_north, M_lean, M_bend, M_sort, M_pace, M_unit, r1, r2, r3⟩, M_slot⟩ := id hM
  have h6 := hb.2.1
  have hL := (hb.2.2.2.1 a).1
  have hL2 := (hb.2.2.2.1 c).1
  have hm : b.1 * sp_far (sp_L b a) (sp_L b c) ≤ 3960 * 80 := Nat.mul_le_mul hb.1.2 (sp_far_le hL hL2)
  refine ax_N.of (ls := [some (.ref 56), some (.int (nI a)), some (.int (nI c))]) (by decide +kernel) rfl (Nat.le_of_ble_eq_true rfl) ?_
  refine ax_aload_n (pc' := 1) rfl dX8_straight_0 rfl ?_
  refine ax_getf (pc' := 4) fl_X8_92 M_o rfl dX8_straight_1 rfl ?_
  refine ax_aload_n (pc' := 5) rfl dX8_straight_4 rfl ?_
  refine ax_getf (pc' := 8) fl_X8_7 M_o rfl dX8_straight_5 rfl ?_
  refine ax_iload_n (pc' := 9) rfl dX8_straight_8 rfl ?_
  refine ax_iald (pc' := 10) M_north rfl (by omega) (by first | decide | assumption | omega) dX8_straight_9 rfl ?_
  refine ax_topi (r1 a ha).1 ?_
  refine ax_aload_n (pc' := 11) rfl dX8_straight_10 rfl ?_
  refine ax_getf (pc' := 14) fl_X8_7 M_o rfl dX8_straight_11 rfl ?_
  refine ax_iload_n (pc' := 15) rfl dX8_straight_14 rfl ?_
  refine ax_iald (pc' := 16) M_north rfl (by omega) (by first | decide | assumption | omega) dX8_straight_15 rfl ?_
  refine ax_topi (r1 c hc).1 ?_
  refine ax_callSR (pc' := 19) ls_X8_161 (m_apart (by omega) (by omega)) rfl rfl (Nat.le_of_ble_eq_true rfl) (Nat.le_of_ble_eq_true rfl) dX8_straight_16 rfl ?_
  refine ax_imul (pc' := 20) dX8_straight_19 rfl ?_
  refine ax_topi (pk_mul _ _) ?_
  refine ax_sipush (pc' := 23) (v := (nI 360)) ks_360 dX8_straight_20 rfl ?_
  refine ax_idiv (pc' := 24) (by decide) dX8_straight_23 rfl ?_
  refine ax_topi (pk_div (by omega) (by decide) (by decide)) ?_
  exact ax_iret dX8_straight_24 rfl (Nat.le_of_ble_eq_true rfl) (Nat.le_of_ble_eq_true rfl) (⟨rfl, rfl⟩)
theorem m_road {a c : Nat} (hM : ml_At σ.1 b f) (hb : sp_ok b) (ha : a < b.2.1) (hc : c < b.2.1) : ax_R mX8_road 2 [.ref 56, .int (nI a), .int (nI c)] σ (.int (nI (sp_road b a c))) := by
  obtain ⟨⟨ng, nt, nw, ac, kp, ln, ap, bg, wr, se, M_o⟩, ⟨fl, fn, fb, fk, fp, fu, M_north, M_lean, M_bend, M_sort, M_pace, M_unit, r1, r2, r3⟩, M_slot⟩ := id hM
  have h6 := hb.2.1
  have hs := sp_str_le hb a c
  have hR := hb.2.2.2.2.1 (6 * a + c)
  have hm : sp_str b a c * (100 + sp_R b (6 * a + c)) ≤ 880 * 150 := Nat.mul_le_mul hs (by omega)
  refine ax_N.of (ls := [some (.ref 56), some (.int (nI a)), some (.int (nI c))]) (by decide +kernel) rfl (Nat.le_of_ble_eq_true rfl) ?_
  refine ax_aload_n (pc' := 1) rfl dX8_road_0 rfl ?_
  refine ax_iload_n (pc' := 2) rfl dX8_road_1 rfl ?_
  refine ax_iload_n (pc' := 3) rfl dX8_road_2 rfl ?_
  refine ax_callVR (pc' := 6) lv_X8_164 (m_straight hM hb ha hc) M_o rfl rfl (Nat.le_of_ble_eq_true rfl) (Nat.le_of_ble_eq_true rfl) dX8_road_3 rfl ?_
  refine ax_bipush (pc' := 8) (v := (nI 100)) kb_100 dX8_road_6 rfl ?_
  refine ax_aload_n (pc' := 9) rfl dX8_road_8 rfl ?_
  refine ax_getf (pc' := 12) fl_X8_16 M_o rfl dX8_road_9 rfl ?_
  refine ax_bipush (pc' := 14) (v := (nI 6)) kb_6 dX8_road_12 rfl ?_
  refine ax_iload_n (pc' := 15) rfl dX8_road_14 rfl ?_
  refine ax_imul (pc' := 16) dX8_road_15 rfl ?_
  refine ax_iload_n (pc' := 17) rfl dX8_road_16 rfl ?_
  refine ax_iadd (pc' := 18) dX8_road_17 rfl ?_
  refine ax_topi (v' := nI (6 * a + c)) (by rw [pk_mul, nI_add]) ?_
  refine ax_iald (pc' := 19) M_bend rfl (by omega) (by first | decide | assumption | omega) dX8_road_18 rfl ?_
  refine ax_topi (r2 _ (by omega)) ?_
  refine ax_iadd (pc' := 20) dX8_road_19 rfl ?_
  refine ax_topi (nI_add _ _) ?_
  refine ax_imul (pc' := 21) dX8_road_20 rfl ?_
  refine ax_topi (pk_mul _ _) ?_
  refine ax_bipush (pc' := 23) (v := (nI 100)) kb_100 dX8_road_21 rfl ?_
  refine ax_idiv (pc' := 24) (by decide) dX8_road_23 rfl ?_
  refine ax_topi (pk_div (by omega) (by decide) (by decide)) ?_
  exact ax_iret dX8_road_24 rfl (Nat.le_of_ble_eq_true rfl) (Nat.le_of_ble_eq_true rfl) (⟨rfl, rfl⟩)
theorem m_degrees {a c : Nat} (hM : ml_At σ.1 b f) (hb : sp_ok b) (ha : a < b.2.1) (hc : c < b.2.1) : ax_R mX8_degrees 2 [.ref 56, .int (nI a), .int (nI c)] σ (.int (nI (sp_deg b a c))) := by
  obtain ⟨⟨ng, nt, nw, ac, kp, ln, ap, bg, wr, se, M_o⟩, ⟨fl, fn, fb, fk, fp, fu, M_north, M_lean, M_bend, M_sort, M_pace, M_unit, r1, r2, r3⟩, M_slot⟩ := id hM
  have hL := sp_sh_le hb a
  have hL2 := sp_sh_le hb c
  refine ax_N.of (ls := [some (.ref 56), some (.int (nI a)), some (.int (nI c))]) (by decide +kernel) rfl (Nat.le_of_ble_eq_true rfl) ?_
  refine ax_aload_n (pc' := 1) rfl dX8_degrees_0 rfl ?_
  refine ax_iload_n (pc' := 2) rfl dX8_degrees_1 rfl ?_
  refine ax_callVR (pc' := 5) lv_X8_167 (m_shadow hM hb ha) M_o rfl rfl (Nat.le_of_ble_eq_true rfl) (Nat.le_of_ble_eq_true rfl) dX8_degrees_2 rfl ?_
  refine ax_aload_n (pc' := 6) rfl dX8_degrees_5 rfl ?_
  refine ax_iload_n (pc' := 7) rfl dX8_degrees_6 rfl ?_
  refine ax_callVR (pc' := 10) lv_X8_167 (m_shadow hM hb hc) M_o rfl rfl (Nat.le_of_ble_eq_true rfl) (Nat.le_of_ble_eq_true rfl) dX8_degrees_7 rfl ?_
  refine ax_callSR (pc' := 13) ls_X8_161 (m_apart (by omega) (by omega)) rfl rfl (Nat.le_of_ble_eq_true rfl) (Nat.le_of_ble_eq_true rfl) dX8_degrees_10 rfl ?_
  exact ax_iret dX8_degrees_13 rfl (Nat.le_of_ble_eq_true rfl) (Nat.le_of_ble_eq_true rfl) (⟨rfl, rfl⟩)
variable {rs : List sp_rep} {p dy : Nat}
theorem m_copied {w a c : Nat} (hM : ml_At σ.1 b f) (hb : sp_ok b) (hL : sl_At f p rs dy) (hp : p + 38 ≤ 456) (hk : bk_ok b rs) (hw : w < 1000) (ha : a < 1000) (hc : c < 1000) : ax_R mX8_copied 0 [.ref 56, .int (nI p), .int (nI w), .int (nI a), .int (nI c)] σ (.int (sp_en (sp_cop rs w a c rs.length))) := by
  obtain ⟨⟨ng, nt, nw, ac, kp, ln, ap, bg, wr, se, M_o⟩, ⟨fl, fn, fb, fk, fp, fu, M_north, M_lean, M_bend, M_sort, M_pace, M_unit, r1, r2, r3⟩, M_slot⟩ := id hM
  obtain ⟨l1, l2, l3⟩ := hL
  have h6 := hb.2.1
  have h4 := hb.2.2.1
  obtain ⟨h9, hk⟩ := hk
  refine ax_N.of (ls := [some (.ref 56), some (.int (nI p)), some (.int (nI w)), some (.int (nI a)), some (.int (nI c)), none, none, none, none, none]) (by decide +kernel) rfl (Nat.le_of_ble_eq_true rfl) ?_
  refine ax_bipush (pc' := 2) (v := (-4)) kb_m4 dX8_copied_0 rfl ?_
  refine ax_istore (pc' := 4) rfl (Nat.le_of_ble_eq_true rfl) dX8_copied_2 rfl ?_
  refine ax_iconst (pc' := 5) (v := (nI 0)) kc_0 dX8_copied_4 rfl ?_
  refine ax_istore (pc' := 7) rfl (Nat.le_of_ble_eq_true rfl) dX8_copied_5 rfl ?_
  have K : ∀ m i (z7 z8 z9 : Option Value), i + m = rs.length → ax_J (mX8_copied, 0, 0, 0) 0 0 7 [some (.ref 56), some (.int (nI p)), some (.int (nI w)), some (.int (nI a)), some (.int (nI c)), some (.int (sp_en (sp_cop rs w a c i))), some (.int (nI i)), z7, z8, z9] [] σ (fun r' σ' => r' = some (.int (sp_en (sp_cop rs w a c rs.length))) ∧ σ' = σ) := by
    intro m
    induction m with
    | zero =>
      intro i z7 z8 z9 hi
      have hi : i = rs.length := hi
      subst hi
      refine ax_iload (pc' := 9) rfl dX8_copied_7 rfl ?_
      refine ax_aload_n (pc' := 10) rfl dX8_copied_9 rfl ?_
      refine ax_getf (pc' := 13) fl_X8_46 M_o rfl dX8_copied_10 rfl ?_
      refine ax_iload_n (pc' := 14) rfl dX8_copied_13 rfl ?_
      refine ax_bipush (pc' := 16) (v := (nI 36)) kb_36 dX8_copied_14 rfl ?_
      refine ax_iadd (pc' := 17) dX8_copied_16 rfl ?_
      refine ax_topi (nI_add _ _) ?_
      refine ax_iald (pc' := 18) M_slot rfl (by omega) (by first | decide | assumption | omega) dX8_copied_17 rfl ?_
      refine ax_topi l1 ?_
      refine ax_icmp_ge (pc' := 21) (tgt := 130) dX8_copied_18 (by decide) rfl (fun _ => ?_) (fun hz => absurd (nI_le (Nat.le_refl _) (by omega)) hz)
      refine ax_iload (pc' := 132) rfl dX8_copied_130 rfl ?_
      exact ax_iret dX8_copied_132 rfl (Nat.le_of_ble_eq_true rfl) (Nat.le_of_ble_eq_true rfl) (⟨rfl, rfl⟩)
    | succ m ih =>
      intro i z7 z8 z9 hi
      have hil : i < rs.length := by omega
      obtain ⟨e0, e1, e2, e3⟩ := l3 i hil
      obtain ⟨q0, q1, q2, q3⟩ := hk i hil
      obtain ⟨⟨w', x, y, n⟩, hq⟩ : ∃ q, sp_at rs i = q := ⟨_, rfl⟩
      have hcop : sp_cop rs w a c (i + 1) = if w' ≠ w ∧ sp_btw (w', x, y, n) a c = true then some n else sp_cop rs w a c i := by rw [sp_cop, hq]
      rw [hq] at e0 e1 e2 e3 q0 q1 q2 q3
      dsimp only at e0 e1 e2 e3 q0 q1 q2 q3
      refine ax_iload (pc' := 9) rfl dX8_copied_7 rfl ?_
      refine ax_aload_n (pc' := 10) rfl dX8_copied_9 rfl ?_
      refine ax_getf (pc' := 13) fl_X8_46 M_o rfl dX8_copied_10 rfl ?_
      refine ax_iload_n (pc' := 14) rfl dX8_copied_13 rfl ?_
      refine ax_bipush (pc' := 16) (v := (nI 36)) kb_36 dX8_copied_14 rfl ?_
      refine ax_iadd (pc' := 17) dX8_copied_16 rfl ?_
      refine ax_topi (nI_add _ _) ?_
      refine ax_iald (pc' := 18) M_slot rfl (by omega) (by first | decide | assumption | omega) dX8_copied_17 rfl ?_
      refine ax_topi l1 ?_
      refine ax_icmp_ge (pc' := 21) (tgt := 130) dX8_copied_18 (by decide) rfl (fun hz => absurd hz (nI_ge hil (by omega))) (fun _ => ?_)
      refine ax_aload_n (pc' := 22) rfl dX8_copied_21 rfl ?_
      refine ax_getf (pc' := 25) fl_X8_46 M_o rfl dX8_copied_22 rfl ?_
      refine ax_iload_n (pc' := 26) rfl dX8_copied_25 rfl ?_
      refine ax_iconst (pc' := 27) (v := (nI 4)) kc_4 dX8_copied_26 rfl ?_
      refine ax_iload (pc' := 29) rfl dX8_copied_27 rfl ?_
      refine ax_imul (pc' := 30) dX8_copied_29 rfl ?_
      refine ax_iadd (pc' := 31) dX8_copied_30 rfl ?_
      refine ax_iconst (pc' := 32) (v := (nI 1)) kc_1 dX8_copied_31 rfl ?_
      refine ax_iadd (pc' := 33) dX8_copied_32 rfl ?_
      refine ax_topi (v' := nI (p + 4 * i + 1)) (by rw [pk_mul, nI_add, nI_add]) ?_
      refine ax_iald (pc' := 34) M_slot rfl (by omega) (by first | decide | assumption | omega) dX8_copied_33 rfl ?_
      refine ax_topi e1 ?_
      refine ax_istore (pc' := 36) rfl (Nat.le_of_ble_eq_true rfl) dX8_copied_34 rfl ?_
      refine ax_aload_n (pc' := 37) rfl dX8_copied_36 rfl ?_
      refine ax_getf (pc' := 40) fl_X8_46 M_o rfl dX8_copied_37 rfl ?_
      refine ax_iload_n (pc' := 41) rfl dX8_copied_40 rfl ?_
      refine ax_iconst (pc' := 42) (v := (nI 4)) kc_4 dX8_copied_41 rfl ?_
      refine ax_iload (pc' := 44) rfl dX8_copied_42 rfl ?_
      refine ax_imul (pc' := 45) dX8_copied_44 rfl ?_
      refine ax_iadd (pc' := 46) dX8_copied_45 rfl ?_
      refine ax_iconst (pc' := 47) (v := (nI 2)) kc_2 dX8_copied_46 rfl ?_
      refine ax_iadd (pc' := 48) dX8_copied_47 rfl ?_
      refine ax_topi (v' := nI (p + 4 * i + 2)) (by rw [pk_mul, nI_add, nI_add]) ?_
      refine ax_iald (pc' := 49) M_slot rfl (by omega) (by first | decide | assumption | omega) dX8_copied_48 rfl ?_
      refine ax_topi e2 ?_
      refine ax_istore (pc' := 51) rfl (Nat.le_of_ble_eq_true rfl) dX8_copied_49 rfl ?_
      refine ax_aload_n (pc' := 52) rfl dX8_copied_51 rfl ?_
      refine ax_getf (pc' := 55) fl_X8_46 M_o rfl dX8_copied_52 rfl ?_
      refine ax_iload_n (pc' := 56) rfl dX8_copied_55 rfl ?_
      refine ax_iconst (pc' := 57) (v := (nI 4)) kc_4 dX8_copied_56 rfl ?_
      refine ax_iload (pc' := 59) rfl dX8_copied_57 rfl ?_
      refine ax_imul (pc' := 60) dX8_copied_59 rfl ?_
      refine ax_iadd (pc' := 61) dX8_copied_60 rfl ?_
      refine ax_topi (v' := nI (p + 4 * i)) (by rw [pk_mul, nI_add]) ?_
      refine ax_iald (pc' := 62) M_slot rfl (by omega) (by first | decide | assumption | omega) dX8_copied_61 rfl ?_
      refine ax_topi e0 ?_
      refine ax_iload_n (pc' := 63) rfl dX8_copied_62 rfl ?_
      have J : ∀ z : Bool, z = (decide (w' ≠ w) && sp_btw (w', x, y, n) a c) → ax_J (mX8_copied, 0, 0, 0) 0 0 97 [some (.ref 56), some (.int (nI p)), some (.int (nI w)), some (.int (nI a)), some (.int (nI c)), some (.int (sp_en (sp_cop rs w a c i))), some (.int (nI i)), some (.int (nI x)), some (.int (nI y)), z9] [.int (nI (sp_bl z))] σ (fun r' σ' => r' = some (.int (sp_en (sp_cop rs w a c rs.length))) ∧ σ' = σ) := by
        intro z hz
        refine ax_istore (pc' := 99) rfl (Nat.le_of_ble_eq_true rfl) dX8_copied_97 rfl ?_
        refine ax_iload (pc' := 101) rfl dX8_copied_99 rfl ?_
        cases z with
        | true =>
          have hz2 : w' ≠ w ∧ sp_btw (w', x, y, n) a c = true := by simpa using hz.symm
          refine ax_if_eq (pc' := 104) (tgt := 120) dX8_copied_101 (by decide) rfl (fun hz => absurd hz (kz_1)) (fun _ => ?_)
          refine ax_aload_n (pc' := 105) rfl dX8_copied_104 rfl ?_
          refine ax_getf (pc' := 108) fl_X8_46 M_o rfl dX8_copied_105 rfl ?_
          refine ax_iload_n (pc' := 109) rfl dX8_copied_108 rfl ?_
          refine ax_iconst (pc' := 110) (v := (nI 4)) kc_4 dX8_copied_109 rfl ?_
          refine ax_iload (pc' := 112) rfl dX8_copied_110 rfl ?_
          refine ax_imul (pc' := 113) dX8_copied_112 rfl ?_
          refine ax_iadd (pc' := 114) dX8_copied_113 rfl ?_
          refine ax_iconst (pc' := 115) (v := (nI 3)) kc_3 dX8_copied_114 rfl ?_
          refine ax_iadd (pc' := 116) dX8_copied_115 rfl ?_
          refine ax_topi (v' := nI (p + 4 * i + 3)) (by rw [pk_mul, nI_add, nI_add]) ?_
          refine ax_iald (pc' := 117) M_slot rfl (by omega) (by first | decide | assumption | omega) dX8_copied_116 rfl ?_
          refine ax_topi e3 ?_
          refine ax_goto (tgt := 122) dX8_copied_117 (by decide) ?_
          refine ax_istore (pc' := 124) rfl (Nat.le_of_ble_eq_true rfl) dX8_copied_122 rfl ?_
          refine ax_iinc1 (pc' := 127) rfl rfl (Nat.le_of_ble_eq_true rfl) dX8_copied_124 rfl ?_
          refine ax_goto (tgt := 7) dX8_copied_127 (by decide) ?_
          have := ih (i + 1) (some (.int (nI x))) (some (.int (nI y))) (some (.int (nI (sp_bl true)))) (by omega)
          rw [hcop, if_pos hz2] at this
          exact this
        | false =>
          have hz2 : ¬ (w' ≠ w ∧ sp_btw (w', x, y, n) a c = true) := by
            intro h
            rw [h.2] at hz
            simp [h.1] at hz
          refine ax_if_eq (pc' := 104) (tgt := 120) dX8_copied_101 (by decide) rfl (fun _ => ?_) (fun hz => absurd (kz_0) hz)
          refine ax_iload (pc' := 122) rfl dX8_copied_120 rfl ?_
          refine ax_istore (pc' := 124) rfl (Nat.le_of_ble_eq_true rfl) dX8_copied_122 rfl ?_
          refine ax_iinc1 (pc' := 127) rfl rfl (Nat.le_of_ble_eq_true rfl) dX8_copied_124 rfl ?_
          refine ax_goto (tgt := 7) dX8_copied_127 (by decide) ?_
          have := ih (i + 1) (some (.int (nI x))) (some (.int (nI y))) (some (.int (nI (sp_bl false)))) (by omega)
          rw [hcop, if_neg hz2] at this
          exact this
      have ne : ∀ u v : Nat, u < 2000 → v < 2000 → u ≠ v → ¬ nI u = nI v := fun u v h1 h2 h e => h ((nI_eq (by omega) (by omega)).mp e)
      by_cases c0 : w' = w
      · refine ax_icmp_eq (pc' := 66) (tgt := 96) dX8_copied_63 (by decide) rfl (fun _ => ?_) (fun hz => absurd (by rw [c0]) hz)
        refine ax_iconst (pc' := 97) (v := (nI 0)) kc_0 dX8_copied_96 rfl ?_
        exact J false (by simp [c0])
      · refine ax_icmp_eq (pc' := 66) (tgt := 96) dX8_copied_63 (by decide) rfl (fun hz => absurd hz (ne _ _ (by omega) (by omega) c0)) (fun _ => ?_)
        refine ax_iload (pc' := 68) rfl dX8_copied_66 rfl ?_
        refine ax_iload_n (pc' := 69) rfl dX8_copied_68 rfl ?_
        have S2 : (¬ (x = a ∧ y = c)) → ax_J (mX8_copied, 0, 0, 0) 0 0 79 [some (.ref 56), some (.int (nI p)), some (.int (nI w)), some (.int (nI a)), some (.int (nI c)), some (.int (sp_en (sp_cop rs w a c i))), some (.int (nI i)), some (.int (nI x)), some (.int (nI y)), z9] [] σ (fun r' σ' => r' = some (.int (sp_en (sp_cop rs w a c rs.length))) ∧ σ' = σ) := by
          intro hn
          refine ax_iload (pc' := 81) rfl dX8_copied_79 rfl ?_
          refine ax_iload (pc' := 83) rfl dX8_copied_81 rfl ?_
          by_cases g1 : x = c
          · refine ax_icmp_ne (pc' := 86) (tgt := 96) dX8_copied_83 (by decide) rfl (fun hz => absurd (by rw [g1]) hz) (fun _ => ?_)
            refine ax_iload (pc' := 88) rfl dX8_copied_86 rfl ?_
            refine ax_iload_n (pc' := 89) rfl dX8_copied_88 rfl ?_
            by_cases g2 : y = a
            · refine ax_icmp_ne (pc' := 92) (tgt := 96) dX8_copied_89 (by decide) rfl (fun hz => absurd (by rw [g2]) hz) (fun _ => ?_)
              refine ax_iconst (pc' := 93) (v := (nI 1)) kc_1 dX8_copied_92 rfl ?_
              refine ax_goto (tgt := 97) dX8_copied_93 (by decide) ?_
              exact J true (by simp [c0, sp_btw, g1, g2])
            · refine ax_icmp_ne (pc' := 92) (tgt := 96) dX8_copied_89 (by decide) rfl (fun _ => ?_) (fun hz => absurd hz (ne _ _ (by omega) (by omega) g2))
              refine ax_iconst (pc' := 97) (v := (nI 0)) kc_0 dX8_copied_96 rfl ?_
              exact J false (by simp [c0, sp_btw, g2]; exact fun h1 h2 => hn ⟨h1, h2⟩)
          · refine ax_icmp_ne (pc' := 86) (tgt := 96) dX8_copied_83 (by decide) rfl (fun _ => ?_) (fun hz => absurd hz (ne _ _ (by omega) (by omega) g1))
            refine ax_iconst (pc' := 97) (v := (nI 0)) kc_0 dX8_copied_96 rfl ?_
            exact J false (by simp [c0, sp_btw, g1]; exact fun h1 h2 => hn ⟨h1, h2⟩)
        by_cases g1 : x = a
        · refine ax_icmp_ne (pc' := 72) (tgt := 79) dX8_copied_69 (by decide) rfl (fun hz => absurd (by rw [g1]) hz) (fun _ => ?_)
          refine ax_iload (pc' := 74) rfl dX8_copied_72 rfl ?_
          refine ax_iload (pc' := 76) rfl dX8_copied_74 rfl ?_
          by_cases g2 : y = c
          · refine ax_icmp_eq (pc' := 79) (tgt := 92) dX8_copied_76 (by decide) rfl (fun _ => ?_) (fun hz => absurd (by rw [g2]) hz)
            refine ax_iconst (pc' := 93) (v := (nI 1)) kc_1 dX8_copied_92 rfl ?_
            refine ax_goto (tgt := 97) dX8_copied_93 (by decide) ?_
            exact J true (by simp [c0, sp_btw, g1, g2])
          · refine ax_icmp_eq (pc' := 79) (tgt := 92) dX8_copied_76 (by decide) rfl (fun hz => absurd hz (ne _ _ (by omega) (by omega) g2)) (fun _ => ?_)
            exact S2 (fun h => g2 h.2)
        · refine ax_icmp_ne (pc' := 72) (tgt := 79) dX8_copied_69 (by decide) rfl (fun _ => ?_) (fun hz => absurd hz (ne _ _ (by omega) (by omega) g1))
          exact S2 (fun h => g1 h.1)
  exact K rs.length 0 none none none (Nat.zero_add _)
theorem m_told {w a c kd u : Nat} (hM : ml_At σ.1 b f) (hb : sp_ok b) (hL : sl_At f p rs dy) (hp : p + 38 ≤ 456) (hk : bk_ok b rs) (hw : w < b.2.2.1) (ha : a < b.2.1) (hc : c < b.2.1) (hkd : kd ≤ 3) (h0 : 0 < u) (hu : u ≤ 9) : ax_R mX8_told 3 [.ref 56, .int (nI p), .int (nI w), .int (nI a), .int (nI c), .int (nI kd), .int (nI u)] σ (.int (nI (sp_told b rs w a c kd u))) := by
  obtain ⟨⟨ng, nt, nw, ac, kp, ln, ap, bg, wr, se, M_o⟩, ⟨fl, fn, fb, fk, fp, fu, M_north, M_lean, M_bend, M_sort, M_pace, M_unit, r1, r2, r3⟩, M_slot⟩ := id hM
  have h6 := hb.2.1
  have h4 := hb.2.2.1
  have hrd := sp_road_le hb a c
  refine ax_N.of (ls := [some (.ref 56), some (.int (nI p)), some (.int (nI w)), some (.int (nI a)), some (.int (nI c)), some (.int (nI kd)), some (.int (nI u)), none]) (by decide +kernel) rfl (Nat.le_of_ble_eq_true rfl) ?_
  refine ax_iload (pc' := 2) rfl dX8_told_0 rfl ?_
  refine ax_iconst (pc' := 3) (v := (nI 3)) kc_3 dX8_told_2 rfl ?_
  have J : ∀ o : Option Nat, (∀ m, o = some m → m ≤ 13300) → sp_told b rs w a c kd u = o.getD (sp_tells kd u (sp_road b a c)) → ax_J (mX8_told, 3, 0, 0) 0 0 20 [some (.ref 56), some (.int (nI p)), some (.int (nI w)), some (.int (nI a)), some (.int (nI c)), some (.int (nI kd)), some (.int (nI u)), none] [.int (sp_en o)] σ (fun r' σ' => r' = some (.int (nI (sp_told b rs w a c kd u))) ∧ σ' = σ) := by
    intro o ho he
    rw [he]
    refine ax_istore (pc' := 22) rfl (Nat.le_of_ble_eq_true rfl) dX8_told_20 rfl ?_
    refine ax_iload (pc' := 24) rfl dX8_told_22 rfl ?_
    cases o with
    | none =>
      refine ax_if_ge (pc' := 27) (tgt := 44) dX8_told_24 (by decide) rfl (fun hz => absurd hz ((by decide))) (fun _ => ?_)
      refine ax_iload (pc' := 29) rfl dX8_told_27 rfl ?_
      refine ax_aload_n (pc' := 30) rfl dX8_told_29 rfl ?_
      refine ax_iload_n (pc' := 31) rfl dX8_told_30 rfl ?_
      refine ax_iload (pc' := 33) rfl dX8_told_31 rfl ?_
      refine ax_callVR (pc' := 36) lv_X8_177 (m_road hM hb ha hc) M_o rfl rfl (Nat.le_of_ble_eq_true rfl) (Nat.le_of_ble_eq_true rfl) dX8_told_33 rfl ?_
      refine ax_iload (pc' := 38) rfl dX8_told_36 rfl ?_
      refine ax_callSR (pc' := 41) ls_X8_190 (m_tells hkd h0 hu (by omega)) rfl rfl (Nat.le_of_ble_eq_true rfl) (Nat.le_of_ble_eq_true rfl) dX8_told_38 rfl ?_
      refine ax_goto (tgt := 46) dX8_told_41 (by decide) ?_
      exact ax_iret dX8_told_46 rfl (Nat.le_of_ble_eq_true rfl) (Nat.le_of_ble_eq_true rfl) (⟨rfl, rfl⟩)
    | some m =>
      have hm := ho m rfl
      refine ax_if_ge (pc' := 27) (tgt := 44) dX8_told_24 (by decide) rfl (fun _ => ?_) (fun hz => absurd (nI_pos' (by omega)) hz)
      refine ax_iload (pc' := 46) rfl dX8_told_44 rfl ?_
      exact ax_iret dX8_told_46 rfl (Nat.le_of_ble_eq_true rfl) (Nat.le_of_ble_eq_true rfl) (⟨rfl, rfl⟩)
  by_cases h3 : kd = 3
  · refine ax_icmp_ne (pc' := 6) (tgt := 18) dX8_told_3 (by decide) rfl (fun hz => absurd (by rw [h3]) hz) (fun _ => ?_)
    refine ax_aload_n (pc' := 7) rfl dX8_told_6 rfl ?_
    refine ax_iload_n (pc' := 8) rfl dX8_told_7 rfl ?_
    refine ax_iload_n (pc' := 9) rfl dX8_told_8 rfl ?_
    refine ax_iload_n (pc' := 10) rfl dX8_told_9 rfl ?_
    refine ax_iload (pc' := 12) rfl dX8_told_10 rfl ?_
    refine ax_callVR (pc' := 15) lv_X8_186 (m_copied hM hb hL hp hk (by omega) (by omega) (by omega)) M_o rfl rfl (Nat.le_of_ble_eq_true rfl) (Nat.le_of_ble_eq_true rfl) dX8_told_12 rfl ?_
    refine ax_goto (tgt := 20) dX8_told_15 (by decide) ?_
    exact J _ (fun m h => sp_cop_le hk (Nat.le_refl _) h) (by simp only [sp_told, h3, if_true])
  · refine ax_icmp_ne (pc' := 6) (tgt := 18) dX8_told_3 (by decide) rfl (fun _ => ?_) (fun hz => absurd hz (fun h => h3 ((nI_eq (by omega) (by omega)).mp h)))
    refine ax_bipush (pc' := 20) (v := (-4)) kb_m4 dX8_told_18 rfl ?_
    exact J none (fun m h => by cases h) (by simp only [sp_told, h3, if_false, Option.getD_none])
theorem m_toldBy {r : Nat} (hM : ml_At σ.1 b f) (hL : sl_At f p rs dy) (hp : p + 38 ≤ 456) (hk : bk_ok b rs) (hr : r < rs.length) : ax_R mX8_toldBy 0 [.ref 56, .int (nI p), .int (nI r)] σ (.int (nI (sp_at rs r).2.2.2)) := by
  obtain ⟨⟨ng, nt, nw, ac, kp, ln, ap, bg, wr, se, M_o⟩, ⟨fl, fn, fb, fk, fp, fu, M_north, M_lean, M_bend, M_sort, M_pace, M_unit, r1, r2, r3⟩, M_slot⟩ := id hM
  obtain ⟨l1, l2, l3⟩ := hL
  obtain ⟨e0, e1, e2, e3⟩ := l3 r hr
  have h9 := hk.1
  refine ax_N.of (ls := [some (.ref 56), some (.int (nI p)), some (.int (nI r))]) (by decide +kernel) rfl (Nat.le_of_ble_eq_true rfl) ?_
  refine ax_aload_n (pc' := 1) rfl dX8_toldBy_0 rfl ?_
  refine ax_getf (pc' := 4) fl_X8_46 M_o rfl dX8_toldBy_1 rfl ?_
  refine ax_iload_n (pc' := 5) rfl dX8_toldBy_4 rfl ?_
  refine ax_iconst (pc' := 6) (v := (nI 4)) kc_4 dX8_toldBy_5 rfl ?_
  refine ax_iload_n (pc' := 7) rfl dX8_toldBy_6 rfl ?_
  refine ax_imul (pc' := 8) dX8_toldBy_7 rfl ?_
  refine ax_iadd (pc' := 9) dX8_toldBy_8 rfl ?_
  refine ax_iconst (pc' := 10) (v := (nI 3)) kc_3 dX8_toldBy_9 rfl ?_
  refine ax_iadd (pc' := 11) dX8_toldBy_10 rfl ?_
  refine ax_topi (v' := nI (p + 4 * r + 3)) (by rw [pk_mul, nI_add, nI_add]) ?_
  refine ax_iald (pc' := 12) M_slot rfl (by omega) (by first | decide | assumption | omega) dX8_toldBy_11 rfl ?_
  refine ax_topi e3 ?_
  exact ax_iret dX8_toldBy_12 rfl (Nat.le_of_ble_eq_true rfl) (Nat.le_of_ble_eq_true rfl) (⟨rfl, rfl⟩)
theorem m_degreesOf {r : Nat} (hM : ml_At σ.1 b f) (hb : sp_ok b) (hL : sl_At f p rs dy) (hp : p + 38 ≤ 456) (hk : bk_ok b rs) (hr : r < rs.length) : ax_R mX8_degreesOf 3 [.ref 56, .int (nI p), .int (nI r)] σ (.int (nI (sp_deg b (sp_at rs r).2.1 (sp_at rs r).2.2.1))) := by
  obtain ⟨⟨ng, nt, nw, ac, kp, ln, ap, bg, wr, se, M_o⟩, ⟨fl, fn, fb, fk, fp, fu, M_north, M_lean, M_bend, M_sort, M_pace, M_unit, r1, r2, r3⟩, M_slot⟩ := id hM
  obtain ⟨l1, l2, l3⟩ := hL
  obtain ⟨e0, e1, e2, e3⟩ := l3 r hr
  obtain ⟨q0, q1, q2, q3⟩ := hk.2 r hr
  have h9 := hk.1
  refine ax_N.of (ls := [some (.ref 56), some (.int (nI p)), some (.int (nI r))]) (by decide +kernel) rfl (Nat.le_of_ble_eq_true rfl) ?_
  refine ax_aload_n (pc' := 1) rfl dX8_degreesOf_0 rfl ?_
  refine ax_aload_n (pc' := 2) rfl dX8_degreesOf_1 rfl ?_
  refine ax_getf (pc' := 5) fl_X8_46 M_o rfl dX8_degreesOf_2 rfl ?_
  refine ax_iload_n (pc' := 6) rfl dX8_degreesOf_5 rfl ?_
  refine ax_iconst (pc' := 7) (v := (nI 4)) kc_4 dX8_degreesOf_6 rfl ?_
  refine ax_iload_n (pc' := 8) rfl dX8_degreesOf_7 rfl ?_
  refine ax_imul (pc' := 9) dX8_degreesOf_8 rfl ?_
  refine ax_iadd (pc' := 10) dX8_degreesOf_9 rfl ?_
  refine ax_iconst (pc' := 11) (v := (nI 1)) kc_1 dX8_degreesOf_10 rfl ?_
  refine ax_iadd (pc' := 12) dX8_degreesOf_11 rfl ?_
  refine ax_topi (v' := nI (p + 4 * r + 1)) (by rw [pk_mul, nI_add, nI_add]) ?_
  refine ax_iald (pc' := 13) M_slot rfl (by omega) (by first | decide | assumption | omega) dX8_degreesOf_12 rfl ?_
  refine ax_topi e1 ?_
  refine ax_aload_n (pc' := 14) rfl dX8_degreesOf_13 rfl ?_
  refine ax_getf (pc' := 17) fl_X8_46 M_o rfl dX8_degreesOf_14 rfl ?_
  refine ax_iload_n (pc' := 18) rfl dX8_degreesOf_17 rfl ?_
  refine ax_iconst (pc' := 19) (v := (nI 4)) kc_4 dX8_degreesOf_18 rfl ?_
  refine ax_iload_n (pc' := 20) rfl dX8_degreesOf_19 rfl ?_
  refine ax_imul (pc' := 21) dX8_degreesOf_20 rfl ?_
  refine ax_iadd (pc' := 22) dX8_degreesOf_21 rfl ?_
  refine ax_iconst (pc' := 23) (v := (nI 2)) kc_2 dX8_degreesOf_22 rfl ?_
  refine ax_iadd (pc' := 24) dX8_degreesOf_23 rfl ?_
  refine ax_topi (v' := nI (p + 4 * r + 2)) (by rw [pk_mul, nI_add, nI_add]) ?_
  refine ax_iald (pc' := 25) M_slot rfl (by omega) (by first | decide | assumption | omega) dX8_degreesOf_24 rfl ?_
  refine ax_topi e2 ?_
  refine ax_callVR (pc' := 28) lv_X8_180 (m_degrees hM hb q1 q2) M_o rfl rfl (Nat.le_of_ble_eq_true rfl) (Nat.le_of_ble_eq_true rfl) dX8_degreesOf_25 rfl ?_
  exact ax_iret dX8_degreesOf_28 rfl (Nat.le_of_ble_eq_true rfl) (Nat.le_of_ble_eq_true rfl) (⟨rfl, rfl⟩)
theorem m_girthBy {r : Nat} (hM : ml_At σ.1 b f) (hb : sp_ok b) (hL : sl_At f p rs dy) (hp : p + 38 ≤ 456) (hk : bk_ok b rs) (hr : r < rs.length) : ax_R mX8_girthBy 4 [.ref 56, .int (nI p), .int (nI r)] σ (.int (sp_en (sp_gb b (sp_at rs r)))) := by
  obtain ⟨⟨ng, nt, nw, ac, kp, ln, ap, bg, wr, se, M_o⟩, ⟨fl, fn, fb, fk, fp, fu, M_north, M_lean, M_bend, M_sort, M_pace, M_unit, r1, r2, r3⟩, M_slot⟩ := id hM
  have hL0 := hL
  obtain ⟨l1, l2, l3⟩ := hL
  obtain ⟨e0, e1, e2, e3⟩ := l3 r hr
  obtain ⟨q0, q1, q2, q3⟩ := hk.2 r hr
  have h9 := hk.1
  have h4 := hb.2.2.1
  have hd := sp_deg_le hb (sp_at rs r).2.1 (sp_at rs r).2.2.1
  refine ax_N.of (ls := [some (.ref 56), some (.int (nI p)), some (.int (nI r))]) (by decide +kernel) rfl (Nat.le_of_ble_eq_true rfl) ?_
  refine ax_aload_n (pc' := 1) rfl dX8_girthBy_0 rfl ?_
  refine ax_aload_n (pc' := 2) rfl dX8_girthBy_1 rfl ?_
  refine ax_iload_n (pc' := 3) rfl dX8_girthBy_2 rfl ?_
  refine ax_iload_n (pc' := 4) rfl dX8_girthBy_3 rfl ?_
  refine ax_callVR (pc' := 7) lv_X8_194 (m_toldBy hM hL0 hp hk hr) M_o rfl rfl (Nat.le_of_ble_eq_true rfl) (Nat.le_of_ble_eq_true rfl) dX8_girthBy_4 rfl ?_
  refine ax_aload_n (pc' := 8) rfl dX8_girthBy_7 rfl ?_
  refine ax_getf (pc' := 11) fl_X8_25 M_o rfl dX8_girthBy_8 rfl ?_
  refine ax_aload_n (pc' := 12) rfl dX8_girthBy_11 rfl ?_
  refine ax_getf (pc' := 15) fl_X8_46 M_o rfl dX8_girthBy_12 rfl ?_
  refine ax_iload_n (pc' := 16) rfl dX8_girthBy_15 rfl ?_
  refine ax_iconst (pc' := 17) (v := (nI 4)) kc_4 dX8_girthBy_16 rfl ?_
  refine ax_iload_n (pc' := 18) rfl dX8_girthBy_17 rfl ?_
  refine ax_imul (pc' := 19) dX8_girthBy_18 rfl ?_
  refine ax_iadd (pc' := 20) dX8_girthBy_19 rfl ?_
  refine ax_topi (v' := nI (p + 4 * r)) (by rw [pk_mul, nI_add]) ?_
  refine ax_iald (pc' := 21) M_slot rfl (by omega) (by first | decide | assumption | omega) dX8_girthBy_20 rfl ?_
  refine ax_topi e0 ?_
  refine ax_iald (pc' := 22) M_unit rfl (by omega) (by first | decide | assumption | omega) dX8_girthBy_21 rfl ?_
  refine ax_topi (r3 _ q0).2.2 ?_
  refine ax_aload_n (pc' := 23) rfl dX8_girthBy_22 rfl ?_
  refine ax_iload_n (pc' := 24) rfl dX8_girthBy_23 rfl ?_
  refine ax_iload_n (pc' := 25) rfl dX8_girthBy_24 rfl ?_
  refine ax_callVR (pc' := 28) lv_X8_197 (m_degreesOf hM hb hL0 hp hk hr) M_o rfl rfl (Nat.le_of_ble_eq_true rfl) (Nat.le_of_ble_eq_true rfl) dX8_girthBy_25 rfl ?_
  refine ax_callVR (pc' := 31) lv_X8_200 (m_girthOf q3 (hb.2.2.2.2.2 _).2.2.2.2 (by omega) (sp_degv (by omega))) M_o rfl rfl (Nat.le_of_ble_eq_true rfl) (Nat.le_of_ble_eq_true rfl) dX8_girthBy_28 rfl ?_
  exact ax_iret dX8_girthBy_31 rfl (Nat.le_of_ble_eq_true rfl) (Nat.le_of_ble_eq_true rfl) (⟨rfl, rfl⟩)
theorem m_bound {r d : Nat} {v : Int32} (hM : ml_At σ.1 b f) (hb : sp_ok b) (hL : sl_At f p rs dy) (hp : p + 38 ≤ 456) (hk : bk_ok b rs) (hr : r < rs.length) (hd : d ≤ 1000) (hv : (0 < d ∧ nI (sp_deg b (sp_at rs r).2.1 (sp_at rs r).2.2.1) + v = nI d) ∨ (d = 0 ∧ nI (sp_deg b (sp_at rs r).2.1 (sp_at rs r).2.2.1) + v ≤ 0)) : ax_R mX8_bound 4 [.ref 56, .int (nI p), .int (nI r), .int v] σ (.int (sp_en (sp_go (sp_at rs r).2.2.2 (sp_U b (sp_at rs r).1) d))) := by
  obtain ⟨⟨ng, nt, nw, ac, kp, ln, ap, bg, wr, se, M_o⟩, ⟨fl, fn, fb, fk, fp, fu, M_north, M_lean, M_bend, M_sort, M_pace, M_unit, r1, r2, r3⟩, M_slot⟩ := id hM
  have hL0 := hL
  obtain ⟨l1, l2, l3⟩ := hL
  obtain ⟨e0, e1, e2, e3⟩ := l3 r hr
  obtain ⟨q0, q1, q2, q3⟩ := hk.2 r hr
  have h9 := hk.1
  have h4 := hb.2.2.1
  refine ax_N.of (ls := [some (.ref 56), some (.int (nI p)), some (.int (nI r)), some (.int v)]) (by decide +kernel) rfl (Nat.le_of_ble_eq_true rfl) ?_
  refine ax_aload_n (pc' := 1) rfl dX8_bound_0 rfl ?_
  refine ax_aload_n (pc' := 2) rfl dX8_bound_1 rfl ?_
  refine ax_iload_n (pc' := 3) rfl dX8_bound_2 rfl ?_
  refine ax_iload_n (pc' := 4) rfl dX8_bound_3 rfl ?_
  refine ax_callVR (pc' := 7) lv_X8_194 (m_toldBy hM hL0 hp hk hr) M_o rfl rfl (Nat.le_of_ble_eq_true rfl) (Nat.le_of_ble_eq_true rfl) dX8_bound_4 rfl ?_
  refine ax_aload_n (pc' := 8) rfl dX8_bound_7 rfl ?_
  refine ax_getf (pc' := 11) fl_X8_25 M_o rfl dX8_bound_8 rfl ?_
  refine ax_aload_n (pc' := 12) rfl dX8_bound_11 rfl ?_
  refine ax_getf (pc' := 15) fl_X8_46 M_o rfl dX8_bound_12 rfl ?_
  refine ax_iload_n (pc' := 16) rfl dX8_bound_15 rfl ?_
  refine ax_iconst (pc' := 17) (v := (nI 4)) kc_4 dX8_bound_16 rfl ?_
  refine ax_iload_n (pc' := 18) rfl dX8_bound_17 rfl ?_
  refine ax_imul (pc' := 19) dX8_bound_18 rfl ?_
  refine ax_iadd (pc' := 20) dX8_bound_19 rfl ?_
  refine ax_topi (v' := nI (p + 4 * r)) (by rw [pk_mul, nI_add]) ?_
  refine ax_iald (pc' := 21) M_slot rfl (by omega) (by first | decide | assumption | omega) dX8_bound_20 rfl ?_
  refine ax_topi e0 ?_
  refine ax_iald (pc' := 22) M_unit rfl (by omega) (by first | decide | assumption | omega) dX8_bound_21 rfl ?_
  refine ax_topi (r3 _ q0).2.2 ?_
  refine ax_aload_n (pc' := 23) rfl dX8_bound_22 rfl ?_
  refine ax_iload_n (pc' := 24) rfl dX8_bound_23 rfl ?_
  refine ax_iload_n (pc' := 25) rfl dX8_bound_24 rfl ?_
  refine ax_callVR (pc' := 28) lv_X8_197 (m_degreesOf hM hb hL0 hp hk hr) M_o rfl rfl (Nat.le_of_ble_eq_true rfl) (Nat.le_of_ble_eq_true rfl) dX8_bound_25 rfl ?_
  refine ax_iload_n (pc' := 29) rfl dX8_bound_28 rfl ?_
  refine ax_iadd (pc' := 30) dX8_bound_29 rfl ?_
  refine ax_callVR (pc' := 33) lv_X8_200 (m_girthOf q3 (hb.2.2.2.2.2 _).2.2.2.2 hd hv) M_o rfl rfl (Nat.le_of_ble_eq_true rfl) (Nat.le_of_ble_eq_true rfl) dX8_bound_30 rfl ?_
  exact ax_iret dX8_bound_33 rfl (Nat.le_of_ble_eq_true rfl) (Nat.le_of_ble_eq_true rfl) (⟨rfl, rfl⟩)
theorem m_least {r : Nat} (hM : ml_At σ.1 b f) (hb : sp_ok b) (hL : sl_At f p rs dy) (hp : p + 38 ≤ 456) (hk : bk_ok b rs) (hr : r < rs.length) : ax_R mX8_bound 4 [.ref 56, .int (nI p), .int (nI r), .int (nI 2)] σ (.int (sp_en (sp_ls b (sp_at rs r)))) :=
  have hd := sp_deg_le hb (sp_at rs r).2.1 (sp_at rs r).2.2.1
  m_bound hM hb hL hp hk hr (by omega) (Or.inl ⟨by omega, nI_add _ 2⟩)
theorem m_most {r : Nat} (hM : ml_At σ.1 b f) (hb : sp_ok b) (hL : sl_At f p rs dy) (hp : p + 38 ≤ 456) (hk : bk_ok b rs) (hr : r < rs.length) : ax_R mX8_bound 4 [.ref 56, .int (nI p), .int (nI r), .int (-2)] σ (.int (sp_en (sp_ms b (sp_at rs r)))) :=
  have hd := sp_deg_le hb (sp_at rs r).2.1 (sp_at rs r).2.2.1
  have e : ∀ x : Int32, x + (-2) = x - nI 2 := fun x => by rw [Int32.sub_eq_add_neg]; rfl
  m_bound hM hb hL hp hk hr (by omega) (by rw [e]; exact sp_degm (by omega))
theorem sp_sel0 (ms i : Nat) : sp_sel b rs ms 0 i = if sp_has ms i then sp_gb b (sp_at rs i) else none := by
  have : sp_has 0 i = false := by simp [sp_has]
  simp [sp_sel, this]
theorem m_meanOf {ms : Nat} (hM : ml_At σ.1 b f) (hb : sp_ok b) (hL : sl_At f p rs dy) (hp : p + 38 ≤ 456) (hk : bk_ok b rs) (hms : ms < 512) : ax_R mX8_meanOf 5 [.ref 56, .int (nI p), .int (nI ms)] σ (.int (sp_en (sp_mean (sp_sel b rs ms 0) rs.length))) := by
  obtain ⟨⟨ng, nt, nw, ac, kp, ln, ap, bg, wr, se, M_o⟩, ⟨fl, fn, fb, fk, fp, fu, M_north, M_lean, M_bend, M_sort, M_pace, M_unit, r1, r2, r3⟩, M_slot⟩ := id hM
  have hL0 := hL
  obtain ⟨l1, l2, l3⟩ := hL
  have h9 := hk.1
  have hsel : ∀ i m, i < rs.length → sp_sel b rs ms 0 i = some m → m ≤ 4309200 := fun i m hi h => sp_sel_le hb hk hi h
  refine ax_N.of (ls := [some (.ref 56), some (.int (nI p)), some (.int (nI ms)), none, none, none, none]) (by decide +kernel) rfl (Nat.le_of_ble_eq_true rfl) ?_
  refine ax_iconst (pc' := 1) (v := (nI 0)) kc_0 dX8_meanOf_0 rfl ?_
  refine ax_istore_n (pc' := 2) rfl (Nat.le_of_ble_eq_true rfl) dX8_meanOf_1 rfl ?_
  refine ax_iconst (pc' := 3) (v := (nI 0)) kc_0 dX8_meanOf_2 rfl ?_
  refine ax_istore (pc' := 5) rfl (Nat.le_of_ble_eq_true rfl) dX8_meanOf_3 rfl ?_
  refine ax_iconst (pc' := 6) (v := (nI 0)) kc_0 dX8_meanOf_5 rfl ?_
  refine ax_istore (pc' := 8) rfl (Nat.le_of_ble_eq_true rfl) dX8_meanOf_6 rfl ?_
  have K : ∀ m i (z6 : Option Value), i + m = rs.length → ax_J (mX8_meanOf, 5, 0, 0) 0 0 8 [some (.ref 56), some (.int (nI p)), some (.int (nI ms)), some (.int (nI (sp_cnt (sp_sel b rs ms 0) i))), some (.int (nI (sp_sum (sp_sel b rs ms 0) i))), some (.int (nI i)), z6] [] σ (fun r σ' => r = some (.int (sp_en (sp_mean (sp_sel b rs ms 0) rs.length))) ∧ σ' = σ) := by
    intro m
    induction m with
    | zero =>
      intro i z6 hi
      have hi : i = rs.length := hi
      subst hi
      obtain ⟨g1, g2⟩ := sp_sum_le hsel
      have g3 : sp_sum (sp_sel b rs ms 0) rs.length ≤ 4309200 * 9 := Nat.le_trans g1 (Nat.mul_le_mul_left _ (by omega))
      refine ax_iload (pc' := 10) rfl dX8_meanOf_8 rfl ?_
      refine ax_aload_n (pc' := 11) rfl dX8_meanOf_10 rfl ?_
      refine ax_getf (pc' := 14) fl_X8_46 M_o rfl dX8_meanOf_11 rfl ?_
      refine ax_iload_n (pc' := 15) rfl dX8_meanOf_14 rfl ?_
      refine ax_bipush (pc' := 17) (v := (nI 36)) kb_36 dX8_meanOf_15 rfl ?_
      refine ax_iadd (pc' := 18) dX8_meanOf_17 rfl ?_
      refine ax_topi (nI_add _ _) ?_
      refine ax_iald (pc' := 19) M_slot rfl (by omega) (by first | decide | assumption | omega) dX8_meanOf_18 rfl ?_
      refine ax_topi l1 ?_
      refine ax_icmp_ge (pc' := 22) (tgt := 80) dX8_meanOf_19 (by decide) rfl (fun _ => ?_) (fun hz => absurd (nI_le (Nat.le_refl _) (by omega)) hz)
      refine ax_iload_n (pc' := 81) rfl dX8_meanOf_80 rfl ?_
      by_cases h0 : sp_cnt (sp_sel b rs ms 0) rs.length = 0
      · refine ax_if_ne (pc' := 84) (tgt := 89) dX8_meanOf_81 (by decide) rfl (fun hz => absurd (by rw [h0]; decide) hz) (fun _ => ?_)
        refine ax_bipush (pc' := 86) (v := (-4)) kb_m4 dX8_meanOf_84 rfl ?_
        refine ax_goto (tgt := 93) dX8_meanOf_86 (by decide) ?_
        exact ax_iret dX8_meanOf_93 rfl (Nat.le_of_ble_eq_true rfl) (Nat.le_of_ble_eq_true rfl) (⟨by simp only [sp_mean, h0, if_true, sp_en], rfl⟩)
      · refine ax_if_ne (pc' := 84) (tgt := 89) dX8_meanOf_81 (by decide) rfl (fun _ => ?_) (fun hz => absurd hz (nI_ne0 (by omega) (by omega)))
        refine ax_iload (pc' := 91) rfl dX8_meanOf_89 rfl ?_
        refine ax_iload_n (pc' := 92) rfl dX8_meanOf_91 rfl ?_
        refine ax_idiv (pc' := 93) (nI_ne0 (by omega) (by omega)) dX8_meanOf_92 rfl ?_
        refine ax_topi (pk_div (by omega) (by omega) (by omega)) ?_
        exact ax_iret dX8_meanOf_93 rfl (Nat.le_of_ble_eq_true rfl) (Nat.le_of_ble_eq_true rfl) (⟨by simp only [sp_mean, h0, if_false, sp_en], rfl⟩)
    | succ m ih =>
      intro i z6 hi
      have hil : i < rs.length := by omega
      refine ax_iload (pc' := 10) rfl dX8_meanOf_8 rfl ?_
      refine ax_aload_n (pc' := 11) rfl dX8_meanOf_10 rfl ?_
      refine ax_getf (pc' := 14) fl_X8_46 M_o rfl dX8_meanOf_11 rfl ?_
      refine ax_iload_n (pc' := 15) rfl dX8_meanOf_14 rfl ?_
      refine ax_bipush (pc' := 17) (v := (nI 36)) kb_36 dX8_meanOf_15 rfl ?_
      refine ax_iadd (pc' := 18) dX8_meanOf_17 rfl ?_
      refine ax_topi (nI_add _ _) ?_
      refine ax_iald (pc' := 19) M_slot rfl (by omega) (by first | decide | assumption | omega) dX8_meanOf_18 rfl ?_
      refine ax_topi l1 ?_
      refine ax_icmp_ge (pc' := 22) (tgt := 80) dX8_meanOf_19 (by decide) rfl (fun hz => absurd hz (nI_ge hil (by omega))) (fun _ => ?_)
      refine ax_iload_n (pc' := 23) rfl dX8_meanOf_22 rfl ?_
      refine ax_iload (pc' := 25) rfl dX8_meanOf_23 rfl ?_
      refine ax_callSR (pc' := 28) ls_X8_230 (m_has hms (by omega)) rfl rfl (Nat.le_of_ble_eq_true rfl) (Nat.le_of_ble_eq_true rfl) dX8_meanOf_25 rfl ?_
      have J : ∀ o : Option Nat, o = sp_sel b rs ms 0 i → ax_J (mX8_meanOf, 5, 0, 0) 0 0 43 [some (.ref 56), some (.int (nI p)), some (.int (nI ms)), some (.int (nI (sp_cnt (sp_sel b rs ms 0) i))), some (.int (nI (sp_sum (sp_sel b rs ms 0) i))), some (.int (nI i)), z6] [.int (sp_en o)] σ (fun r σ' => r = some (.int (sp_en (sp_mean (sp_sel b rs ms 0) rs.length))) ∧ σ' = σ) := by
        intro o ho
        refine ax_istore (pc' := 45) rfl (Nat.le_of_ble_eq_true rfl) dX8_meanOf_43 rfl ?_
        refine ax_iload_n (pc' := 46) rfl dX8_meanOf_45 rfl ?_
        refine ax_iload (pc' := 48) rfl dX8_meanOf_46 rfl ?_
        cases o with
        | none =>
          refine ax_if_ge (pc' := 51) (tgt := 55) dX8_meanOf_48 (by decide) rfl (fun hz => absurd hz ((by decide))) (fun _ => ?_)
          refine ax_iconst (pc' := 52) (v := (nI 0)) kc_0 dX8_meanOf_51 rfl ?_
          refine ax_goto (tgt := 56) dX8_meanOf_52 (by decide) ?_
          refine ax_iadd (pc' := 57) dX8_meanOf_56 rfl ?_
          refine ax_topi (nI_add _ 0) ?_
          refine ax_istore_n (pc' := 58) rfl (Nat.le_of_ble_eq_true rfl) dX8_meanOf_57 rfl ?_
          refine ax_iload (pc' := 60) rfl dX8_meanOf_58 rfl ?_
          refine ax_iload (pc' := 62) rfl dX8_meanOf_60 rfl ?_
          refine ax_if_ge (pc' := 65) (tgt := 69) dX8_meanOf_62 (by decide) rfl (fun hz => absurd hz ((by decide))) (fun _ => ?_)
          refine ax_iconst (pc' := 66) (v := (nI 0)) kc_0 dX8_meanOf_65 rfl ?_
          refine ax_goto (tgt := 71) dX8_meanOf_66 (by decide) ?_
          refine ax_iadd (pc' := 72) dX8_meanOf_71 rfl ?_
          refine ax_topi (nI_add _ 0) ?_
          refine ax_istore (pc' := 74) rfl (Nat.le_of_ble_eq_true rfl) dX8_meanOf_72 rfl ?_
          refine ax_iinc1 (pc' := 77) rfl rfl (Nat.le_of_ble_eq_true rfl) dX8_meanOf_74 rfl ?_
          refine ax_goto (tgt := 8) dX8_meanOf_77 (by decide) ?_
          have := ih (i + 1) (some (.int (sp_en none))) (by omega)
          simp only [sp_sum, sp_cnt, ← ho, Option.getD_none, Option.isSome_none, Bool.false_eq_true, if_false] at this
          exact this
        | some x =>
          have hx := hsel i x hil ho.symm
          refine ax_if_ge (pc' := 51) (tgt := 55) dX8_meanOf_48 (by decide) rfl (fun _ => ?_) (fun hz => absurd (nI_pos' (by omega)) hz)
          refine ax_iconst (pc' := 56) (v := (nI 1)) kc_1 dX8_meanOf_55 rfl ?_
          refine ax_iadd (pc' := 57) dX8_meanOf_56 rfl ?_
          refine ax_topi (nI_add _ 1) ?_
          refine ax_istore_n (pc' := 58) rfl (Nat.le_of_ble_eq_true rfl) dX8_meanOf_57 rfl ?_
          refine ax_iload (pc' := 60) rfl dX8_meanOf_58 rfl ?_
          refine ax_iload (pc' := 62) rfl dX8_meanOf_60 rfl ?_
          refine ax_if_ge (pc' := 65) (tgt := 69) dX8_meanOf_62 (by decide) rfl (fun _ => ?_) (fun hz => absurd (nI_pos' (by omega)) hz)
          refine ax_iload (pc' := 71) rfl dX8_meanOf_69 rfl ?_
          refine ax_iadd (pc' := 72) dX8_meanOf_71 rfl ?_
          refine ax_topi (nI_add _ x) ?_
          refine ax_istore (pc' := 74) rfl (Nat.le_of_ble_eq_true rfl) dX8_meanOf_72 rfl ?_
          refine ax_iinc1 (pc' := 77) rfl rfl (Nat.le_of_ble_eq_true rfl) dX8_meanOf_74 rfl ?_
          refine ax_goto (tgt := 8) dX8_meanOf_77 (by decide) ?_
          have := ih (i + 1) (some (.int (sp_en (some x)))) (by omega)
          simp only [sp_sum, sp_cnt, ← ho, Option.getD_some, Option.isSome_some, if_true] at this
          exact this
      by_cases hh : sp_has ms i = true
      · refine ax_if_eq (pc' := 31) (tgt := 41) dX8_meanOf_28 (by decide) rfl (fun hz => absurd hz (by rw [hh]; exact kz_1)) (fun _ => ?_)
        refine ax_aload_n (pc' := 32) rfl dX8_meanOf_31 rfl ?_
        refine ax_iload_n (pc' := 33) rfl dX8_meanOf_32 rfl ?_
        refine ax_iload (pc' := 35) rfl dX8_meanOf_33 rfl ?_
        refine ax_callVR (pc' := 38) lv_X8_208 (m_girthBy hM hb hL0 hp hk hil) M_o rfl rfl (Nat.le_of_ble_eq_true rfl) (Nat.le_of_ble_eq_true rfl) dX8_meanOf_35 rfl ?_
        refine ax_goto (tgt := 43) dX8_meanOf_38 (by decide) ?_
        exact J _ (by rw [sp_sel0, if_pos hh])
      · refine ax_if_eq (pc' := 31) (tgt := 41) dX8_meanOf_28 (by decide) rfl (fun _ => ?_) (fun hz => absurd (by rw [show sp_has ms i = false by simpa using hh]; exact kz_0) hz)
        refine ax_bipush (pc' := 43) (v := (-4)) kb_m4 dX8_meanOf_41 rfl ?_
        exact J none (by rw [sp_sel0, if_neg hh])
  exact K rs.length 0 none (Nat.zero_add _)
theorem m_isNear {e : Nat} {o : Option Nat} (hM : ml_At σ.1 b f) (hb : sp_ok b) (ho : ∀ m, o = some m → m ≤ 5000000) (he : e ≤ 99) : ax_R mX8_isNear 1 [.ref 56, .int (sp_en o), .int (nI e)] σ (.int (nI (sp_bl (sp_near b.1 e o)))) := by
  obtain ⟨⟨ng, nt, nw, ac, kp, ln, ap, bg, wr, se, M_o⟩, ⟨fl, fn, fb, fk, fp, fu, M_north, M_lean, M_bend, M_sort, M_pace, M_unit, r1, r2, r3⟩, M_slot⟩ := id hM
  cases o with
  | none =>
    refine ax_N.of (ls := [some (.ref 56), some (.int (sp_en none)), some (.int (nI e))]) (by decide +kernel) rfl (Nat.le_of_ble_eq_true rfl) ?_
    refine ax_iload_n (pc' := 1) rfl dX8_isNear_0 rfl ?_
    refine ax_if_lt (pc' := 4) (tgt := 35) dX8_isNear_1 (by decide) rfl (fun _ => ?_) (fun hz => absurd ((by decide)) hz)
    refine ax_iconst (pc' := 36) (v := (nI 0)) kc_0 dX8_isNear_35 rfl ?_
    exact ax_zret dX8_isNear_36 rfl (by decide) (Nat.le_of_ble_eq_true rfl) (Nat.le_of_ble_eq_true rfl) (⟨rfl, rfl⟩)
  | some m =>
    have hm := ho m rfl
    have hg := hb.1.2
    have hf : sp_far m b.1 ≤ 5000000 := sp_far_le hm (by omega)
    have hmul : e * b.1 ≤ 99 * 3960 := Nat.mul_le_mul he hg
    refine ax_N.of (ls := [some (.ref 56), some (.int (nI m)), some (.int (nI e))]) (by decide +kernel) rfl (Nat.le_of_ble_eq_true rfl) ?_
    refine ax_iload_n (pc' := 1) rfl dX8_isNear_0 rfl ?_
    refine ax_if_lt (pc' := 4) (tgt := 35) dX8_isNear_1 (by decide) rfl (fun hz => absurd hz (nI_pos (by omega))) (fun _ => ?_)
    refine ax_iload_n (pc' := 5) rfl dX8_isNear_4 rfl ?_
    refine ax_aload_n (pc' := 6) rfl dX8_isNear_5 rfl ?_
    refine ax_getf (pc' := 9) fl_X8_92 M_o rfl dX8_isNear_6 rfl ?_
    refine ax_callSR (pc' := 12) ls_X8_161 (m_apart (by omega) (by omega)) rfl rfl (Nat.le_of_ble_eq_true rfl) (Nat.le_of_ble_eq_true rfl) dX8_isNear_9 rfl ?_
    refine ax_i2l (pc' := 13) dX8_isNear_12 rfl ?_
    refine ax_topl (nI_l (by omega)) ?_
    refine ax_ldc2 (pc' := 16) kl_X8_240 dX8_isNear_13 rfl ?_
    refine ax_lmul (pc' := 17) dX8_isNear_16 rfl ?_
    refine ax_topl (v' := lN (100 * sp_far m b.1)) (by rw [lN_mul, Nat.mul_comm]) ?_
    refine ax_lconst (pc' := 18) (v := lN 1) rfl dX8_isNear_17 rfl ?_
    refine ax_iload_n (pc' := 19) rfl dX8_isNear_18 rfl ?_
    refine ax_i2l (pc' := 20) dX8_isNear_19 rfl ?_
    refine ax_topl (nI_l (by omega)) ?_
    refine ax_lmul (pc' := 21) dX8_isNear_20 rfl ?_
    refine ax_topl (v' := lN e) (by rw [lN_mul, Nat.one_mul]) ?_
    refine ax_aload_n (pc' := 22) rfl dX8_isNear_21 rfl ?_
    refine ax_getf (pc' := 25) fl_X8_92 M_o rfl dX8_isNear_22 rfl ?_
    refine ax_i2l (pc' := 26) dX8_isNear_25 rfl ?_
    refine ax_topl (nI_l (by omega)) ?_
    refine ax_lmul (pc' := 27) dX8_isNear_26 rfl ?_
    refine ax_topl (lN_mul e b.1) ?_
    refine ax_lcmp (pc' := 28) dX8_isNear_27 rfl ?_
    by_cases hc : 100 * sp_far m b.1 ≤ e * b.1
    · refine ax_if_gt (pc' := 31) (tgt := 35) dX8_isNear_28 (by decide) rfl (fun hz => absurd hz (fun h => absurd ((ax_cmp_gt (by omega) (by omega)).mp h) (by omega))) (fun _ => ?_)
      refine ax_iconst (pc' := 32) (v := (nI 1)) kc_1 dX8_isNear_31 rfl ?_
      refine ax_goto (tgt := 36) dX8_isNear_32 (by decide) ?_
      exact ax_zret dX8_isNear_36 rfl (by decide) (Nat.le_of_ble_eq_true rfl) (Nat.le_of_ble_eq_true rfl) (⟨by simp [sp_near, sp_bl, hc], rfl⟩)
    · refine ax_if_gt (pc' := 31) (tgt := 35) dX8_isNear_28 (by decide) rfl (fun _ => ?_) (fun hz => absurd ((ax_cmp_gt (by omega) (by omega)).mpr (by omega)) hz)
      refine ax_iconst (pc' := 36) (v := (nI 0)) kc_0 dX8_isNear_35 rfl ?_
      exact ax_zret dX8_isNear_36 rfl (by decide) (Nat.le_of_ble_eq_true rfl) (Nat.le_of_ble_eq_true rfl) (⟨by simp [sp_near, sp_bl, hc], rfl⟩)
end MA
