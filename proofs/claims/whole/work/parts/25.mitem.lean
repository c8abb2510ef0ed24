/-! ===== the model reads the text: items ===== -/
theorem nums_inv {n : Nat} {tx : Nat → Nat} {r i : Nat} {q : List Nat × Nat} (h : sp_nums n tx (r + 1) i = some q) : ∃ v j q', sp_rn n tx i = (some v, j) ∧ sp_lt n tx j = (if r = 0 then 59 else 44) ∧ sp_nums n tx r (j + 1) = some q' ∧ q = (v :: q'.1, q'.2) := by
  simp only [sp_nums] at h
  split at h
  · cases h
  · rename_i v j e
    by_cases hl : sp_lt n tx j = (if r = 0 then 59 else 44)
    · rw [if_pos hl] at h
      obtain ⟨q', h1, h2⟩ := Option.map_eq_some_iff.mp h
      exact ⟨v, j, q', e, hl, h1, h2.symm⟩
    · rw [if_neg hl] at h
      cases h
theorem take_inv {n : Nat} {tx : Nat → Nat} {i : Nat} {b : sp_B} {q : sp_B × Nat} (h : sp_take n tx i b = some q) : ∃ p, sp_nums n tx (sp_want (sp_lt n tx i)) (i + 1) = some p ∧ sp_item b (sp_lt n tx i) (p.1.getD 0 0) (p.1.getD 1 0) (p.1.getD 2 0) = some q.1 := by
  unfold sp_take at h
  split at h
  · cases h
  · rename_i p hp
    obtain ⟨b', h1, h2⟩ := Option.map_eq_some_iff.mp h
    cases h2
    exact ⟨p, hp, h1⟩
section IV
variable {n : Nat} {tx : Nat → Nat} {i : Nat} {b : sp_B}
theorem take_none (h : ∀ q, ¬ sp_take n tx i b = some q) : sp_take n tx i b = none := by
  cases e : sp_take n tx i b with
  | none => rfl
  | some q => exact absurd e (h q)
theorem nu_no {k lo H v j c : Nat} (hb : nu_bad n tx k lo H) (e : sp_rn n tx k = (some v, j)) (h1 : lo ≤ v) (h2 : v < H) (hl : sp_lt n tx j = c) (hc : sp_dig c = false) : False := by
  have := hb v j e h1 h2
  rw [hl, hc] at this
  cases this
theorem inv_g {q : sp_B × Nat} (hch : sp_lt n tx i = 103) (h : sp_take n tx i b = some q) : ∃ v j, sp_rn n tx (i + 1) = (some v, j) ∧ sp_lt n tx j = 59 ∧ 1 ≤ v ∧ v ≤ 99 := by
  obtain ⟨p, hp, hi⟩ := take_inv h
  rw [hch] at hp hi
  obtain ⟨v1, j1, p1, a1, a2, a3, rfl⟩ := nums_inv (r := 0) hp
  unfold sp_item at hi
  rw [if_pos rfl] at hi
  split at hi
  · rename_i hc
    exact ⟨v1, j1, a1, a2, hc⟩
  · cases hi
theorem inv_t {q : sp_B × Nat} (hch : sp_lt n tx i = 116) (h : sp_take n tx i b = some q) : ∃ v1 j1 v2 j2, sp_rn n tx (i + 1) = (some v1, j1) ∧ sp_lt n tx j1 = 44 ∧ sp_rn n tx (j1 + 1) = (some v2, j2) ∧ sp_lt n tx j2 = 59 ∧ b.2.1 < 6 ∧ v1 ≤ 80 ∧ v2 ≤ 8 := by
  obtain ⟨p, hp, hi⟩ := take_inv h
  rw [hch] at hp hi
  obtain ⟨v1, j1, p1, a1, a2, a3, rfl⟩ := nums_inv (r := 1) hp
  obtain ⟨v2, j2, p2, b1, b2, b3, rfl⟩ := nums_inv (r := 0) a3
  unfold sp_item at hi
  rw [if_neg (by decide), if_pos rfl] at hi
  split at hi
  · rename_i hc
    exact ⟨v1, j1, v2, j2, a1, a2, b1, b2, hc⟩
  · cases hi
theorem inv_r {q : sp_B × Nat} (hch : sp_lt n tx i = 114) (h : sp_take n tx i b = some q) : ∃ v1 j1 v2 j2 v3 j3, sp_rn n tx (i + 1) = (some v1, j1) ∧ sp_lt n tx j1 = 44 ∧ sp_rn n tx (j1 + 1) = (some v2, j2) ∧ sp_lt n tx j2 = 44 ∧ sp_rn n tx (j2 + 1) = (some v3, j3) ∧ sp_lt n tx j3 = 59 ∧ v1 < b.2.1 ∧ v2 < b.2.1 ∧ v1 ≠ v2 ∧ v3 ≤ 50 := by
  obtain ⟨p, hp, hi⟩ := take_inv h
  rw [hch] at hp hi
  obtain ⟨v1, j1, p1, a1, a2, a3, rfl⟩ := nums_inv (r := 2) hp
  obtain ⟨v2, j2, p2, b1, b2, b3, rfl⟩ := nums_inv (r := 1) a3
  obtain ⟨v3, j3, p3, c1, c2, c3, rfl⟩ := nums_inv (r := 0) b3
  unfold sp_item at hi
  rw [if_neg (by decide), if_neg (by decide), if_pos rfl] at hi
  split at hi
  · rename_i hc
    exact ⟨v1, j1, v2, j2, v3, j3, a1, a2, b1, b2, c1, c2, hc⟩
  · cases hi
theorem inv_w {q : sp_B × Nat} (hch : sp_lt n tx i = 119) (h : sp_take n tx i b = some q) : ∃ v1 j1 v2 j2 v3 j3, sp_rn n tx (i + 1) = (some v1, j1) ∧ sp_lt n tx j1 = 44 ∧ sp_rn n tx (j1 + 1) = (some v2, j2) ∧ sp_lt n tx j2 = 44 ∧ sp_rn n tx (j2 + 1) = (some v3, j3) ∧ sp_lt n tx j3 = 59 ∧ b.2.2.1 < 4 ∧ v1 ≤ 3 ∧ (1 ≤ v2 ∧ v2 ≤ 40) ∧ 1 ≤ v3 ∧ v3 ≤ 9 := by
  obtain ⟨p, hp, hi⟩ := take_inv h
  rw [hch] at hp hi
  obtain ⟨v1, j1, p1, a1, a2, a3, rfl⟩ := nums_inv (r := 2) hp
  obtain ⟨v2, j2, p2, b1, b2, b3, rfl⟩ := nums_inv (r := 1) a3
  obtain ⟨v3, j3, p3, c1, c2, c3, rfl⟩ := nums_inv (r := 0) b3
  unfold sp_item at hi
  rw [if_neg (by decide), if_neg (by decide), if_neg (by decide), if_pos rfl] at hi
  split at hi
  · rename_i hc
    exact ⟨v1, j1, v2, j2, v3, j3, a1, a2, b1, b2, c1, c2, hc⟩
  · cases hi
theorem tk_g {v j : Nat} (hch : sp_lt n tx i = 103) (e : sp_rn n tx (i + 1) = (some v, j)) (h1 : 1 ≤ v) (h2 : v ≤ 99) : sp_take n tx i b = if sp_lt n tx j = 59 then some ((40 * v, b.2), j + 1) else none := by
  by_cases h : sp_lt n tx j = 59
  · simp [sp_take, hch, sp_want, sp_nums, e, h, sp_item, h1, h2]
  · simp [sp_take, hch, sp_want, sp_nums, e, h]
theorem tk_t {v1 j1 v2 j2 : Nat} (hch : sp_lt n tx i = 116) (e1 : sp_rn n tx (i + 1) = (some v1, j1)) (l1 : sp_lt n tx j1 = 44) (e2 : sp_rn n tx (j1 + 1) = (some v2, j2)) (h6 : b.2.1 < 6) (h1 : v1 ≤ 80) (h2 : v2 ≤ 8) : sp_take n tx i b = if sp_lt n tx j2 = 59 then some (sp_bT b v1 v2, j2 + 1) else none := by
  by_cases h : sp_lt n tx j2 = 59
  · simp [sp_take, hch, sp_want, sp_nums, e1, l1, e2, h, sp_item, h1, h2, h6]
  · simp [sp_take, hch, sp_want, sp_nums, e1, l1, e2, h]
theorem tk_r {v1 j1 v2 j2 v3 j3 : Nat} (hch : sp_lt n tx i = 114) (e1 : sp_rn n tx (i + 1) = (some v1, j1)) (l1 : sp_lt n tx j1 = 44) (e2 : sp_rn n tx (j1 + 1) = (some v2, j2)) (l2 : sp_lt n tx j2 = 44) (e3 : sp_rn n tx (j2 + 1) = (some v3, j3)) (h1 : v1 < b.2.1) (h2 : v2 < b.2.1) (h12 : v1 ≠ v2) (h3 : v3 ≤ 50) : sp_take n tx i b = if sp_lt n tx j3 = 59 then some (sp_bR b v1 v2 v3, j3 + 1) else none := by
  by_cases h : sp_lt n tx j3 = 59
  · simp [sp_take, hch, sp_want, sp_nums, e1, l1, e2, l2, e3, h, sp_item, h1, h2, h12, h3]
  · simp [sp_take, hch, sp_want, sp_nums, e1, l1, e2, l2, e3, h]
theorem tk_w {v1 j1 v2 j2 v3 j3 : Nat} (hch : sp_lt n tx i = 119) (e1 : sp_rn n tx (i + 1) = (some v1, j1)) (l1 : sp_lt n tx j1 = 44) (e2 : sp_rn n tx (j1 + 1) = (some v2, j2)) (l2 : sp_lt n tx j2 = 44) (e3 : sp_rn n tx (j2 + 1) = (some v3, j3)) (h4 : b.2.2.1 < 4) (h1 : v1 ≤ 3) (h2 : 1 ≤ v2 ∧ v2 ≤ 40) (h3 : 1 ≤ v3 ∧ v3 ≤ 9) : sp_take n tx i b = if sp_lt n tx j3 = 59 then some (sp_bW b v1 v2 v3, j3 + 1) else none := by
  by_cases h : sp_lt n tx j3 = 59
  · simp [sp_take, hch, sp_want, sp_nums, e1, l1, e2, l2, e3, h, sp_item, h1, h2, h3, h4]
  · simp [sp_take, hch, sp_want, sp_nums, e1, l1, e2, l2, e3, h]
end IV
/-- the new ball's rows -/
def mnb_At (h : ax_H) (b : sp_B) : Prop := ∃ fl fn fb fk fp fu : Nat → Int32, h 63 = some (.inl (false, 6, fl)) ∧ h 64 = some (.inl (false, 6, fn)) ∧ h 65 = some (.inl (false, 36, fb)) ∧ h 66 = some (.inl (false, 4, fk)) ∧ h 67 = some (.inl (false, 4, fp)) ∧ h 68 = some (.inl (false, 4, fu)) ∧ (∀ t, t < b.2.1 → fl t = nI (sp_L b t) ∧ fn t = nI (sp_W b t) - nI 4) ∧ (∀ q, q < 36 → fb q = nI (sp_R b q)) ∧ (∀ w, w < b.2.2.1 → fk w = nI (sp_K b w) ∧ fp w = nI (sp_P b w) ∧ fu w = nI (sp_U b w))
theorem mnb_At.any {h : ax_H} {b : sp_B} (hB : mnb_At h b) : mn_Any h := by
  obtain ⟨fl, fn, fb, fk, fp, fu, a1, a2, a3, a4, a5, a6, -⟩ := hB
  exact ⟨fl, fn, fb, fk, fp, fu, a1, a2, a3, a4, a5, a6⟩
theorem mnb_At.on {h h' : ax_H} {b : sp_B} (hB : mnb_At h b) (e : ∀ q, 63 ≤ q → q < 69 → h' q = h q) : mnb_At h' b := by
  obtain ⟨fl, fn, fb, fk, fp, fu, a1, a2, a3, a4, a5, a6, r⟩ := hB
  exact ⟨fl, fn, fb, fk, fp, fu, (e _ (by decide) (by decide)).trans a1, (e _ (by decide) (by decide)).trans a2, (e _ (by decide) (by decide)).trans a3, (e _ (by decide) (by decide)).trans a4, (e _ (by decide) (by decide)).trans a5, (e _ (by decide) (by decide)).trans a6, r⟩
/-- the object and the new ball's rows, and no other cells, may have changed -/
def it_fr (σ τ : ax_S) : Prop := τ.2 = σ.2 ∧ ∀ q, q ≠ 56 → (q < 63 ∨ 69 ≤ q) → τ.1 q = σ.1 q
theorem it_fr.rf {σ : ax_S} : it_fr σ σ := ⟨rfl, fun _ _ _ => rfl⟩
theorem it_fr.up {a : Nat} {c : ax_C} {ρ σ τ : ax_S} (h : it_fr ρ σ) (hτ : τ = (ax_up σ.1 a c, σ.2)) (ha : a = 56 ∨ (63 ≤ a ∧ a < 69)) : it_fr ρ τ := ⟨(ax_k2 hτ).trans h.1, fun q h1 h2 => (ax_kF hτ (by omega)).trans (h.2 q h1 h2)⟩
theorem it_fr.tr {ρ σ τ : ax_S} (h : it_fr ρ σ) (h' : it_fr σ τ) : it_fr ρ τ := ⟨h'.1.trans h.1, fun q h1 h2 => (h'.2 q h1 h2).trans (h.2 q h1 h2)⟩
section MI
variable {σ : ax_S} {g t w ac kp ln ap bg wr se : Int32} {b : sp_B} {ng nt nw : Int32}
theorem m_clears (M_o : σ.1 56 = some (.inr (8, mo_f g t w ng nt nw ac kp ln ap bg wr se))) (hN : mn_Any σ.1) : ax_N mX8_clears 0 0 0 [.ref 56] σ (fun r τ => r = none ∧ τ.1 56 = some (.inr (8, mo_f g t w (nI 36) (nI 0) (nI 0) ac kp ln ap bg wr se)) ∧ mnb_At τ.1 sp_b0 ∧ it_fr σ τ) := by
  obtain ⟨fl, fn, fb, fk, fp, fu, M_newNorth, M_newLean, M_newBend, M_newSort, M_newPace, M_newUnit⟩ := hN
  refine ax_N.of (ls := [some (.ref 56), none]) (by decide +kernel) rfl (Nat.le_of_ble_eq_true rfl) ?_
  refine ax_aload_n (pc' := 1) rfl dX8_clears_0 rfl ?_
  refine ax_bipush (pc' := 3) (v := (nI 36)) kb_36 dX8_clears_1 rfl ?_
  refine ax_putu (pc' := 6) fp_X8_82 M_o rfl (fun _ => ⟨rfl, rfl⟩) dX8_clears_3 rfl (fun s1 g1 => ?_)
  have M_o := ax_kS g1
  have M_newNorth := ax_kN g1 M_newNorth (by omega)
  have M_newLean := ax_kN g1 M_newLean (by omega)
  have M_newBend := ax_kN g1 M_newBend (by omega)
  have M_newSort := ax_kN g1 M_newSort (by omega)
  have M_newPace := ax_kN g1 M_newPace (by omega)
  have M_newUnit := ax_kN g1 M_newUnit (by omega)
  refine ax_aload_n (pc' := 7) rfl dX8_clears_6 rfl ?_
  refine ax_iconst (pc' := 8) (v := (nI 0)) kc_0 dX8_clears_7 rfl ?_
  refine ax_putu (pc' := 11) fp_X8_86 M_o rfl (fun _ => ⟨rfl, rfl⟩) dX8_clears_8 rfl (fun s2 g2 => ?_)
  have M_o := ax_kS g2
  have M_newNorth := ax_kN g2 M_newNorth (by omega)
  have M_newLean := ax_kN g2 M_newLean (by omega)
  have M_newBend := ax_kN g2 M_newBend (by omega)
  have M_newSort := ax_kN g2 M_newSort (by omega)
  have M_newPace := ax_kN g2 M_newPace (by omega)
  have M_newUnit := ax_kN g2 M_newUnit (by omega)
  refine ax_aload_n (pc' := 12) rfl dX8_clears_11 rfl ?_
  refine ax_iconst (pc' := 13) (v := (nI 0)) kc_0 dX8_clears_12 rfl ?_
  refine ax_putu (pc' := 16) fp_X8_89 M_o rfl (fun _ => ⟨rfl, rfl⟩) dX8_clears_13 rfl (fun s3 g3 => ?_)
  have M_o := ax_kS g3
  have M_newNorth := ax_kN g3 M_newNorth (by omega)
  have M_newLean := ax_kN g3 M_newLean (by omega)
  have M_newBend := ax_kN g3 M_newBend (by omega)
  have M_newSort := ax_kN g3 M_newSort (by omega)
  have M_newPace := ax_kN g3 M_newPace (by omega)
  have M_newUnit := ax_kN g3 M_newUnit (by omega)
  have hF : it_fr σ s3 := ((it_fr.rf.up g1 (Or.inl rfl)).up g2 (Or.inl rfl)).up g3 (Or.inl rfl)
  refine ax_iconst (pc' := 17) (v := (nI 0)) kc_0 dX8_clears_16 rfl ?_
  refine ax_istore_n (pc' := 18) rfl (Nat.le_of_ble_eq_true rfl) dX8_clears_17 rfl ?_
  have K : ∀ m i (τ : ax_S) (fb : Nat → Int32), i + m = 36 → τ.1 56 = some (.inr (8, mo_f g t w (nI 36) (nI 0) (nI 0) ac kp ln ap bg wr se)) → τ.1 63 = some (.inl (false, 6, fl)) → τ.1 64 = some (.inl (false, 6, fn)) → τ.1 65 = some (.inl (false, 36, fb)) → τ.1 66 = some (.inl (false, 4, fk)) → τ.1 67 = some (.inl (false, 4, fp)) → τ.1 68 = some (.inl (false, 4, fu)) → (∀ q, q < i → fb q = nI 10) → it_fr σ τ → ax_J (mX8_clears, 0, 0, 0) 0 0 18 [some (.ref 56), some (.int (nI i))] [] τ (fun r τ => r = none ∧ τ.1 56 = some (.inr (8, mo_f g t w (nI 36) (nI 0) (nI 0) ac kp ln ap bg wr se)) ∧ mnb_At τ.1 sp_b0 ∧ it_fr σ τ) := by
    intro m
    induction m with
    | zero =>
      intro i τ fb hi M_o a1 a2 a3 a4 a5 a6 hq hF
      have hi : i = 36 := hi
      subst hi
      refine ax_iload_n (pc' := 19) rfl dX8_clears_18 rfl ?_
      refine ax_bipush (pc' := 21) (v := (nI 36)) kb_36 dX8_clears_19 rfl ?_
      refine ax_icmp_ge (pc' := 24) (tgt := 38) dX8_clears_21 (by decide) rfl (fun _ => ?_) (fun hz => absurd ((by decide)) hz)
      exact ax_vret dX8_clears_38 rfl (Nat.le_of_ble_eq_true rfl) (Nat.le_of_ble_eq_true rfl) (⟨rfl, M_o, ⟨fl, fn, fb, fk, fp, fu, a1, a2, a3, a4, a5, a6, fun t ht => absurd ht (Nat.not_lt_zero _), fun q h => hq q h, fun t ht => absurd ht (Nat.not_lt_zero _)⟩, hF⟩)
    | succ m ih =>
      intro i τ fb hi M_o a1 a2 M_newBend a4 a5 a6 hq hF
      refine ax_iload_n (pc' := 19) rfl dX8_clears_18 rfl ?_
      refine ax_bipush (pc' := 21) (v := (nI 36)) kb_36 dX8_clears_19 rfl ?_
      refine ax_icmp_ge (pc' := 24) (tgt := 38) dX8_clears_21 (by decide) rfl (fun hz => absurd hz (nI_ge (by omega) (by decide))) (fun _ => ?_)
      refine ax_aload_n (pc' := 25) rfl dX8_clears_24 rfl ?_
      refine ax_getf (pc' := 28) fl_X8_34 M_o rfl dX8_clears_25 rfl ?_
      refine ax_iload_n (pc' := 29) rfl dX8_clears_28 rfl ?_
      refine ax_bipush (pc' := 31) (v := (nI 10)) kb_10 dX8_clears_29 rfl ?_
      refine ax_iasu (pc' := 32) M_newBend rfl (by omega) (by first | decide | assumption | omega) dX8_clears_31 rfl (fun s4 g4 => ?_)
      have M_newBend := ax_kS g4
      have M_o := ax_kN g4 M_o (by omega)
      have a1 := ax_kN g4 a1 (by omega)
      have a2 := ax_kN g4 a2 (by omega)
      have a4 := ax_kN g4 a4 (by omega)
      have a5 := ax_kN g4 a5 (by omega)
      have a6 := ax_kN g4 a6 (by omega)
      refine ax_iinc1 (pc' := 35) rfl rfl (Nat.le_of_ble_eq_true rfl) dX8_clears_32 rfl ?_
      refine ax_goto (tgt := 18) dX8_clears_35 (by decide) ?_
      refine ih (i + 1) s4 _ (by omega) M_o a1 a2 M_newBend a4 a5 a6 (fun q h => ?_) (hF.up g4 (Or.inr (by omega)))
      by_cases e : q = i
      · rw [e, pk_us]
      · rw [pk_un e]
        exact hq q (by omega)
  exact K 36 0 s3 fb (by decide) M_o M_newNorth M_newLean M_newBend M_newSort M_newPace M_newUnit (fun q h => absurd h (Nat.not_lt_zero _)) hF
abbrev ba_Po (σ : ax_S) (g t w ac kp ln ap bg wr se ng : Int32) (b : sp_B) : Option Value → ax_S → Prop := fun r τ => r = none ∧ τ.1 56 = some (.inr (8, mo_f g t w ng (nI b.2.1) (nI b.2.2.1) ac kp ln ap bg wr se)) ∧ mnb_At τ.1 b ∧ it_fr σ τ
theorem m_lies {l x : Nat} (M_o : σ.1 56 = some (.inr (8, mo_f g t w ng (nI b.2.1) (nI b.2.2.1) ac kp ln ap bg wr se))) (hN : mnb_At σ.1 b) (h6 : b.2.1 < 6) : ax_N mX8_lies 0 0 0 [.ref 56, .int (nI l), .int (nI x)] σ (ba_Po σ g t w ac kp ln ap bg wr se ng (sp_bT b l x)) := by
  obtain ⟨fl, fn, fb, fk, fp, fu, M_newNorth, M_newLean, M_newBend, M_newSort, M_newPace, M_newUnit, r1, r2, r3⟩ := hN
  refine ax_N.of (ls := [some (.ref 56), some (.int (nI l)), some (.int (nI x))]) (by decide +kernel) rfl (Nat.le_of_ble_eq_true rfl) ?_
  refine ax_aload_n (pc' := 1) rfl dX8_lies_0 rfl ?_
  refine ax_getf (pc' := 4) fl_X8_28 M_o rfl dX8_lies_1 rfl ?_
  refine ax_aload_n (pc' := 5) rfl dX8_lies_4 rfl ?_
  refine ax_getf (pc' := 8) fl_X8_86 M_o rfl dX8_lies_5 rfl ?_
  refine ax_iload_n (pc' := 9) rfl dX8_lies_8 rfl ?_
  refine ax_iasu (pc' := 10) M_newNorth rfl (h6) (by first | decide | assumption | omega) dX8_lies_9 rfl (fun s1 g1 => ?_)
  have M_newNorth := ax_kS g1
  have M_o := ax_kN g1 M_o (by omega)
  have M_newLean := ax_kN g1 M_newLean (by omega)
  have M_newBend := ax_kN g1 M_newBend (by omega)
  have M_newSort := ax_kN g1 M_newSort (by omega)
  have M_newPace := ax_kN g1 M_newPace (by omega)
  have M_newUnit := ax_kN g1 M_newUnit (by omega)
  refine ax_aload_n (pc' := 11) rfl dX8_lies_10 rfl ?_
  refine ax_getf (pc' := 14) fl_X8_31 M_o rfl dX8_lies_11 rfl ?_
  refine ax_aload_n (pc' := 15) rfl dX8_lies_14 rfl ?_
  refine ax_getf (pc' := 18) fl_X8_86 M_o rfl dX8_lies_15 rfl ?_
  refine ax_iload_n (pc' := 19) rfl dX8_lies_18 rfl ?_
  refine ax_iconst (pc' := 20) (v := (nI 4)) kc_4 dX8_lies_19 rfl ?_
  refine ax_isub (pc' := 21) dX8_lies_20 rfl ?_
  refine ax_iasu (pc' := 22) M_newLean rfl (h6) (by first | decide | assumption | omega) dX8_lies_21 rfl (fun s2 g2 => ?_)
  have M_newLean := ax_kS g2
  have M_o := ax_kN g2 M_o (by omega)
  have M_newNorth := ax_kN g2 M_newNorth (by omega)
  have M_newBend := ax_kN g2 M_newBend (by omega)
  have M_newSort := ax_kN g2 M_newSort (by omega)
  have M_newPace := ax_kN g2 M_newPace (by omega)
  have M_newUnit := ax_kN g2 M_newUnit (by omega)
  refine ax_aload_n (pc' := 23) rfl dX8_lies_22 rfl ?_
  refine ax_dup (pc' := 24) rfl dX8_lies_23 rfl ?_
  refine ax_getf (pc' := 27) fl_X8_86 M_o rfl dX8_lies_24 rfl ?_
  refine ax_iconst (pc' := 28) (v := (nI 1)) kc_1 dX8_lies_27 rfl ?_
  refine ax_iadd (pc' := 29) dX8_lies_28 rfl ?_
  refine ax_topi (nI_add _ 1) ?_
  refine ax_putu (pc' := 32) fp_X8_86 M_o rfl (fun _ => ⟨rfl, rfl⟩) dX8_lies_29 rfl (fun s3 g3 => ?_)
  have M_o := ax_kS g3
  have M_newNorth := ax_kN g3 M_newNorth (by omega)
  have M_newLean := ax_kN g3 M_newLean (by omega)
  have M_newBend := ax_kN g3 M_newBend (by omega)
  have M_newSort := ax_kN g3 M_newSort (by omega)
  have M_newPace := ax_kN g3 M_newPace (by omega)
  have M_newUnit := ax_kN g3 M_newUnit (by omega)
  refine ax_vret dX8_lies_32 rfl (Nat.le_refl 0) (Nat.le_refl 0) ⟨rfl, M_o, ⟨_, _, fb, fk, fp, fu, M_newNorth, M_newLean, M_newBend, M_newSort, M_newPace, M_newUnit, fun t h => ?_, r2, r3⟩, ((it_fr.rf.up g1 (Or.inr (by omega))).up g2 (Or.inr (by omega))).up g3 (Or.inl rfl)⟩
  by_cases e : t = b.2.1
  · subst e
    simp [upd, sp_bT, sp_L, sp_W, sp_up]
  · have h7 : t < b.2.1 := by have : t < b.2.1 + 1 := h; omega
    simp [upd, sp_bT, sp_L, sp_W, sp_up, e]
    exact r1 t h7
theorem m_bends {a c r : Nat} (M_o : σ.1 56 = some (.inr (8, mo_f g t w ng (nI b.2.1) (nI b.2.2.1) ac kp ln ap bg wr se))) (hN : mnb_At σ.1 b) (ha : a < 6) (hc : c < 6) : ax_N mX8_bends 0 0 0 [.ref 56, .int (nI a), .int (nI c), .int (nI r)] σ (ba_Po σ g t w ac kp ln ap bg wr se ng (sp_bR b a c r)) := by
  obtain ⟨fl, fn, fb, fk, fp, fu, M_newNorth, M_newLean, M_newBend, M_newSort, M_newPace, M_newUnit, r1, r2, r3⟩ := hN
  refine ax_N.of (ls := [some (.ref 56), some (.int (nI a)), some (.int (nI c)), some (.int (nI r))]) (by decide +kernel) rfl (Nat.le_of_ble_eq_true rfl) ?_
  refine ax_aload_n (pc' := 1) rfl dX8_bends_0 rfl ?_
  refine ax_getf (pc' := 4) fl_X8_34 M_o rfl dX8_bends_1 rfl ?_
  refine ax_bipush (pc' := 6) (v := (nI 6)) kb_6 dX8_bends_4 rfl ?_
  refine ax_iload_n (pc' := 7) rfl dX8_bends_6 rfl ?_
  refine ax_imul (pc' := 8) dX8_bends_7 rfl ?_
  refine ax_iload_n (pc' := 9) rfl dX8_bends_8 rfl ?_
  refine ax_iadd (pc' := 10) dX8_bends_9 rfl ?_
  refine ax_topi (v' := nI (6 * a + c)) (by rw [pk_mul, nI_add]) ?_
  refine ax_iload_n (pc' := 11) rfl dX8_bends_10 rfl ?_
  refine ax_iasu (pc' := 12) M_newBend rfl (by omega) (by first | decide | assumption | omega) dX8_bends_11 rfl (fun s1 g1 => ?_)
  have M_newBend := ax_kS g1
  have M_o := ax_kN g1 M_o (by omega)
  have M_newNorth := ax_kN g1 M_newNorth (by omega)
  have M_newLean := ax_kN g1 M_newLean (by omega)
  have M_newSort := ax_kN g1 M_newSort (by omega)
  have M_newPace := ax_kN g1 M_newPace (by omega)
  have M_newUnit := ax_kN g1 M_newUnit (by omega)
  refine ax_aload_n (pc' := 13) rfl dX8_bends_12 rfl ?_
  refine ax_getf (pc' := 16) fl_X8_34 M_o rfl dX8_bends_13 rfl ?_
  refine ax_bipush (pc' := 18) (v := (nI 6)) kb_6 dX8_bends_16 rfl ?_
  refine ax_iload_n (pc' := 19) rfl dX8_bends_18 rfl ?_
  refine ax_imul (pc' := 20) dX8_bends_19 rfl ?_
  refine ax_iload_n (pc' := 21) rfl dX8_bends_20 rfl ?_
  refine ax_iadd (pc' := 22) dX8_bends_21 rfl ?_
  refine ax_topi (v' := nI (6 * c + a)) (by rw [pk_mul, nI_add]) ?_
  refine ax_iload_n (pc' := 23) rfl dX8_bends_22 rfl ?_
  refine ax_iasu (pc' := 24) M_newBend rfl (by omega) (by first | decide | assumption | omega) dX8_bends_23 rfl (fun s2 g2 => ?_)
  have M_newBend := ax_kS g2
  have M_o := ax_kN g2 M_o (by omega)
  have M_newNorth := ax_kN g2 M_newNorth (by omega)
  have M_newLean := ax_kN g2 M_newLean (by omega)
  have M_newSort := ax_kN g2 M_newSort (by omega)
  have M_newPace := ax_kN g2 M_newPace (by omega)
  have M_newUnit := ax_kN g2 M_newUnit (by omega)
  refine ax_vret dX8_bends_24 rfl (Nat.le_refl 0) (Nat.le_refl 0) ⟨rfl, M_o, ⟨fl, fn, _, fk, fp, fu, M_newNorth, M_newLean, M_newBend, M_newSort, M_newPace, M_newUnit, r1, fun q hq => ?_, r3⟩, (it_fr.rf.up g1 (Or.inr (by omega))).up g2 (Or.inr (by omega))⟩
  by_cases e1 : q = 6 * c + a
  · simp [upd, sp_bR, sp_R, sp_up, e1]
  · by_cases e2 : q = 6 * a + c
    · simp [upd, sp_bR, sp_R, sp_up, e2]
    · simp [upd, sp_bR, sp_R, sp_up, e1, e2]
      exact r2 q hq
theorem m_goes {kd pa u : Nat} (M_o : σ.1 56 = some (.inr (8, mo_f g t w ng (nI b.2.1) (nI b.2.2.1) ac kp ln ap bg wr se))) (hN : mnb_At σ.1 b) (h4 : b.2.2.1 < 4) : ax_N mX8_goes 0 0 0 [.ref 56, .int (nI kd), .int (nI pa), .int (nI u)] σ (ba_Po σ g t w ac kp ln ap bg wr se ng (sp_bW b kd pa u)) := by
  obtain ⟨fl, fn, fb, fk, fp, fu, M_newNorth, M_newLean, M_newBend, M_newSort, M_newPace, M_newUnit, r1, r2, r3⟩ := hN
  refine ax_N.of (ls := [some (.ref 56), some (.int (nI kd)), some (.int (nI pa)), some (.int (nI u))]) (by decide +kernel) rfl (Nat.le_of_ble_eq_true rfl) ?_
  refine ax_aload_n (pc' := 1) rfl dX8_goes_0 rfl ?_
  refine ax_getf (pc' := 4) fl_X8_37 M_o rfl dX8_goes_1 rfl ?_
  refine ax_aload_n (pc' := 5) rfl dX8_goes_4 rfl ?_
  refine ax_getf (pc' := 8) fl_X8_89 M_o rfl dX8_goes_5 rfl ?_
  refine ax_iload_n (pc' := 9) rfl dX8_goes_8 rfl ?_
  refine ax_iasu (pc' := 10) M_newSort rfl (h4) (by first | decide | assumption | omega) dX8_goes_9 rfl (fun s1 g1 => ?_)
  have M_newSort := ax_kS g1
  have M_o := ax_kN g1 M_o (by omega)
  have M_newNorth := ax_kN g1 M_newNorth (by omega)
  have M_newLean := ax_kN g1 M_newLean (by omega)
  have M_newBend := ax_kN g1 M_newBend (by omega)
  have M_newPace := ax_kN g1 M_newPace (by omega)
  have M_newUnit := ax_kN g1 M_newUnit (by omega)
  refine ax_aload_n (pc' := 11) rfl dX8_goes_10 rfl ?_
  refine ax_getf (pc' := 14) fl_X8_40 M_o rfl dX8_goes_11 rfl ?_
  refine ax_aload_n (pc' := 15) rfl dX8_goes_14 rfl ?_
  refine ax_getf (pc' := 18) fl_X8_89 M_o rfl dX8_goes_15 rfl ?_
  refine ax_iload_n (pc' := 19) rfl dX8_goes_18 rfl ?_
  refine ax_iasu (pc' := 20) M_newPace rfl (h4) (by first | decide | assumption | omega) dX8_goes_19 rfl (fun s2 g2 => ?_)
  have M_newPace := ax_kS g2
  have M_o := ax_kN g2 M_o (by omega)
  have M_newNorth := ax_kN g2 M_newNorth (by omega)
  have M_newLean := ax_kN g2 M_newLean (by omega)
  have M_newBend := ax_kN g2 M_newBend (by omega)
  have M_newSort := ax_kN g2 M_newSort (by omega)
  have M_newUnit := ax_kN g2 M_newUnit (by omega)
  refine ax_aload_n (pc' := 21) rfl dX8_goes_20 rfl ?_
  refine ax_getf (pc' := 24) fl_X8_43 M_o rfl dX8_goes_21 rfl ?_
  refine ax_aload_n (pc' := 25) rfl dX8_goes_24 rfl ?_
  refine ax_getf (pc' := 28) fl_X8_89 M_o rfl dX8_goes_25 rfl ?_
  refine ax_iload_n (pc' := 29) rfl dX8_goes_28 rfl ?_
  refine ax_iasu (pc' := 30) M_newUnit rfl (h4) (by first | decide | assumption | omega) dX8_goes_29 rfl (fun s3 g3 => ?_)
  have M_newUnit := ax_kS g3
  have M_o := ax_kN g3 M_o (by omega)
  have M_newNorth := ax_kN g3 M_newNorth (by omega)
  have M_newLean := ax_kN g3 M_newLean (by omega)
  have M_newBend := ax_kN g3 M_newBend (by omega)
  have M_newSort := ax_kN g3 M_newSort (by omega)
  have M_newPace := ax_kN g3 M_newPace (by omega)
  refine ax_aload_n (pc' := 31) rfl dX8_goes_30 rfl ?_
  refine ax_dup (pc' := 32) rfl dX8_goes_31 rfl ?_
  refine ax_getf (pc' := 35) fl_X8_89 M_o rfl dX8_goes_32 rfl ?_
  refine ax_iconst (pc' := 36) (v := (nI 1)) kc_1 dX8_goes_35 rfl ?_
  refine ax_iadd (pc' := 37) dX8_goes_36 rfl ?_
  refine ax_topi (nI_add _ 1) ?_
  refine ax_putu (pc' := 40) fp_X8_89 M_o rfl (fun _ => ⟨rfl, rfl⟩) dX8_goes_37 rfl (fun s4 g4 => ?_)
  have M_o := ax_kS g4
  have M_newNorth := ax_kN g4 M_newNorth (by omega)
  have M_newLean := ax_kN g4 M_newLean (by omega)
  have M_newBend := ax_kN g4 M_newBend (by omega)
  have M_newSort := ax_kN g4 M_newSort (by omega)
  have M_newPace := ax_kN g4 M_newPace (by omega)
  have M_newUnit := ax_kN g4 M_newUnit (by omega)
  refine ax_vret dX8_goes_40 rfl (Nat.le_refl 0) (Nat.le_refl 0) ⟨rfl, M_o, ⟨fl, fn, fb, _, _, _, M_newNorth, M_newLean, M_newBend, M_newSort, M_newPace, M_newUnit, r1, r2, fun t h => ?_⟩, (((it_fr.rf.up g1 (Or.inr (by omega))).up g2 (Or.inr (by omega))).up g3 (Or.inr (by omega))).up g4 (Or.inl rfl)⟩
  by_cases e : t = b.2.2.1
  · subst e
    simp [upd, sp_bW, sp_K, sp_P, sp_U, sp_up]
  · have h7 : t < b.2.2.1 := by have : t < b.2.2.1 + 1 := h; omega
    simp [upd, sp_bW, sp_K, sp_P, sp_U, sp_up, e]
    exact r3 t h7
end MI
