section AXU
variable {F : ax_F} {k w pc pc' : Nat} {ls : List (Option Value)} {st : List Value} {σ : ax_S} {post : Option Value → ax_S → Prop}
theorem ax_kN {σ τ : ax_S} {a q m : Nat} {c : ax_C} {x : Option ax_C} (hτ : τ = (ax_up σ.1 a c, m)) (e : σ.1 q = x) (hq : q ≠ a) : τ.1 q = x := by rw [hτ]; exact (ax_up_ne hq).trans e
theorem ax_kS {σ τ : ax_S} {a m : Nat} {c : ax_C} (hτ : τ = (ax_up σ.1 a c, m)) : τ.1 a = some c := by rw [hτ]; exact ax_up_eq
theorem ax_kF {σ τ : ax_S} {a m q : Nat} {c : ax_C} (hτ : τ = (ax_up σ.1 a c, m)) (hq : q ≠ a) : τ.1 q = σ.1 q := by rw [hτ]; exact ax_up_ne hq
theorem ax_k2 {σ τ : ax_S} {a m : Nat} {c : ax_C} (hτ : τ = (ax_up σ.1 a c, m)) : τ.2 = m := by rw [hτ]
theorem ax_putu {a ci i idx : Nat} {fs fs' : List Value} {v : Value} {ty : FieldType} (hl : ax_FP F.1.1.cls idx ci i ty) (hc : σ.1 a = some (.inr (ci, fs))) (hs : ax_set fs i v some = some fs') (hn : ∀ x : ax_X, narrow ty (ax_cv x v) = ax_cv x v ∧ fits ty (ax_cv x v) = true) (hd : decode F.1.2.1 pc = .ok (.putfield idx, 3)) (hp : pc + 3 = pc') (kk : ∀ τ : ax_S, τ = (ax_up σ.1 a (.inr (ci, fs')), σ.2) → ax_J F k w pc' ls st τ post) : ax_J F k w pc ls (v :: .ref a :: st) σ post :=
  ax_putf hl hc hs hn hd hp (kk _ rfl)
theorem ax_iasu {a n j : Nat} {f : Nat → Int32} {i v : Int32} (hc : σ.1 a = some (.inl (false, n, f))) (hi : i = nI j) (hj : j < n) (hn : n < 2 ^ 31) (hd : decode F.1.2.1 pc = .ok (.iastore, 1)) (hp : pc + 1 = pc') (kk : ∀ τ : ax_S, τ = (ax_up σ.1 a (.inl (false, n, upd f j v)), σ.2) → ax_J F k w pc' ls st τ post) : ax_J F k w pc ls (.int v :: .int i :: .ref a :: st) σ post :=
  ax_iast hc hi hj hn hd hp (kk _ rfl)
theorem ax_basu {a n j : Nat} {f : Nat → Int32} {i v : Int32} (hc : σ.1 a = some (.inl (true, n, f))) (hi : i = nI j) (hj : j < n) (hn : n < 2 ^ 31) (hd : decode F.1.2.1 pc = .ok (.bastore, 1)) (hp : pc + 1 = pc') (kk : ∀ τ : ax_S, τ = (ax_up σ.1 a (.inl (true, n, upd f j (vp_nar .byte v))), σ.2) → ax_J F k w pc' ls st τ post) : ax_J F k w pc ls (.int v :: .int i :: .ref a :: st) σ post :=
  ax_bast hc hi hj hn hd hp (kk _ rfl)
theorem ax_callSU {M : ax_M} {d n idx : Nat} {av rest : List Value} {τ : ax_S} (hl : ax_LS F.1.1.cls idx M n) (hN : ax_V M d av σ τ) (hst : st = ax_push av rest) (hlen : av.length = n) (hdd : d + 1 ≤ F.2.1) (hr : (rest.map Value.category).sum ≤ 8) (hd : decode F.1.2.1 pc = .ok (.invokestatic idx, 3)) (hp : pc + 3 = pc') (kk : ∀ τ' : ax_S, τ' = τ → ax_J F k w pc' ls rest τ' post) (hk : k ≤ F.2.2.1 := by first | exact Nat.zero_le _ | assumption) (hw : w ≤ F.2.2.2 := by first | exact Nat.zero_le _ | assumption) : ax_J F k w pc ls st σ post :=
  ax_callS hl hN hst hlen hdd hr hk hw hd hp (fun r σ' h => by obtain ⟨rfl, h2⟩ := h; exact kk σ' h2)
theorem ax_callVU {M : ax_M} {d n idx ci a : Nat} {fs av rest : List Value} {τ : ax_S} (hl : ax_LV F.1.1.cls idx M n ci) (hN : ax_V M d (.ref a :: av) σ τ) (hc : σ.1 a = some (.inr (ci, fs))) (hst : st = ax_push (.ref a :: av) rest) (hlen : av.length = n) (hdd : d + 1 ≤ F.2.1) (hr : (rest.map Value.category).sum ≤ 8) (hd : decode F.1.2.1 pc = .ok (.invokevirtual idx, 3)) (hp : pc + 3 = pc') (kk : ∀ τ' : ax_S, τ' = τ → ax_J F k w pc' ls rest τ' post) (hk : k ≤ F.2.2.1 := by first | exact Nat.zero_le _ | assumption) (hw : w ≤ F.2.2.2 := by first | exact Nat.zero_le _ | assumption) : ax_J F k w pc ls st σ post :=
  ax_callV hl hN hc hst hlen hdd hr hk hw hd hp (fun r σ' h => by obtain ⟨rfl, h2⟩ := h; exact kk σ' h2)
end AXU
/-- nothing changed but the k cells from p on; no cell is new -/
def ax_fr (p k : Nat) (σ τ : ax_S) : Prop := τ.2 = σ.2 ∧ ∀ q, q < p ∨ p + k ≤ q → τ.1 q = σ.1 q
theorem ax_fr.rf {p k : Nat} {σ : ax_S} : ax_fr p k σ σ := ⟨rfl, fun _ _ => rfl⟩
theorem ax_fr.up {p k a : Nat} {c : ax_C} {ρ σ τ : ax_S} (h : ax_fr p k ρ σ) (hτ : τ = (ax_up σ.1 a c, σ.2)) (h1 : p ≤ a) (h2 : a < p + k) : ax_fr p k ρ τ :=
  ⟨(ax_k2 hτ).trans h.1, fun q hq => (ax_kF hτ (by omega)).trans (h.2 q hq)⟩
theorem ax_fr.tr {p k p' k' : Nat} {ρ σ τ : ax_S} (h : ax_fr p k ρ σ) (h' : ax_fr p' k' σ τ) (h1 : p ≤ p') (h2 : p' + k' ≤ p + k) : ax_fr p k ρ τ :=
  ⟨h'.1.trans h.1, fun q hq => (h'.2 q (by omega)).trans (h.2 q hq)⟩
theorem ax_fr.at {p k q : Nat} {x : Option ax_C} {σ τ : ax_S} (h : ax_fr p k σ τ) (e : σ.1 q = x) (hq : q < p ∨ p + k ≤ q) : τ.1 q = x := (h.2 q hq).trans e
/-! ===== Ball: reading ===== -/
def sp_up (f : Nat → Nat) (k v : Nat) : Nat → Nat := fun q => if q = k then v else f q
def sp_b0 : sp_B := (1440, 0, 0, fun _ => 0, fun _ => 0, fun _ => 10, fun _ => 0, fun _ => 1, fun _ => 1)
theorem sp_b0_ok : sp_ok sp_b0 := ⟨by decide, by decide, by decide, fun _ => by simp [sp_b0, sp_L, sp_W], fun _ => by simp [sp_b0, sp_R], fun _ => by simp [sp_b0, sp_K, sp_P, sp_U]⟩
def sp_bT (b : sp_B) (l v : Nat) : sp_B := (b.1, b.2.1 + 1, b.2.2.1, sp_up (sp_L b) b.2.1 l, sp_up (sp_W b) b.2.1 v, sp_R b, sp_K b, sp_P b, sp_U b)
def sp_bR (b : sp_B) (a c r : Nat) : sp_B := (b.1, b.2.1, b.2.2.1, sp_L b, sp_W b, sp_up (sp_up (sp_R b) (6 * a + c) r) (6 * c + a) r, sp_K b, sp_P b, sp_U b)
def sp_bW (b : sp_B) (k p u : Nat) : sp_B := (b.1, b.2.1, b.2.2.1 + 1, sp_L b, sp_W b, sp_R b, sp_up (sp_K b) b.2.2.1 k, sp_up (sp_P b) b.2.2.1 p, sp_up (sp_U b) b.2.2.1 u)
/-- cells of a ball, whatever they hold -/
def bl_Any (h : ax_H) (p : Nat) : Prop := ∃ (g t w : Int32) (fl fn fb fr fk fp fu : Nat → Int32),
  h p = some (.inr (0, [.ref (p + 1), .ref (p + 2), .ref (p + 3), .ref (p + 4), .ref (p + 5), .ref (p + 6), .ref (p + 7), .int g, .int t, .int w])) ∧
  h (p + 1) = some (.inl (false, 6, fl)) ∧ h (p + 2) = some (.inl (false, 6, fn)) ∧ h (p + 3) = some (.inl (false, 36, fb)) ∧ h (p + 4) = some (.inl (false, 36, fr)) ∧ h (p + 5) = some (.inl (false, 4, fk)) ∧ h (p + 6) = some (.inl (false, 4, fp)) ∧ h (p + 7) = some (.inl (false, 4, fu))
theorem bl_Aw.any {h : ax_H} {p : Nat} {b : sp_B} {fr : Nat → Int32} (hB : bl_Aw h p b fr) : bl_Any h p := by
  obtain ⟨fl, fn, fb, fk, fp, fu, B_o, B_lies, B_leans, B_bends, B_roads, B_kinds, B_paces, B_units, -⟩ := hB
  exact ⟨_, _, _, _, _, _, _, _, _, _, B_o, B_lies, B_leans, B_bends, B_roads, B_kinds, B_paces, B_units⟩
theorem bl_Aw.fr {σ τ : ax_S} {p q k : Nat} {b : sp_B} {fr : Nat → Int32} (hB : bl_Aw σ.1 p b fr) (h : ax_fr q k σ τ) (hd : p + 8 ≤ q ∨ q + k ≤ p) : bl_Aw τ.1 p b fr := by
  obtain ⟨fl, fn, fb, fk, fp, fu, B_o, B_lies, B_leans, B_bends, B_roads, B_kinds, B_paces, B_units, r⟩ := hB
  exact ⟨fl, fn, fb, fk, fp, fu, h.at B_o (by omega), h.at B_lies (by omega), h.at B_leans (by omega), h.at B_bends (by omega), h.at B_roads (by omega), h.at B_kinds (by omega), h.at B_paces (by omega), h.at B_units (by omega), r⟩
theorem bl_At.fr {σ τ : ax_S} {p q k : Nat} {b : sp_B} (hB : bl_At σ.1 p b) (h : ax_fr q k σ τ) (hd : p + 8 ≤ q ∨ q + k ≤ p) : bl_At τ.1 p b := by
  obtain ⟨fr, h1, h2⟩ := hB
  exact ⟨fr, h1.fr h hd, h2⟩
theorem bl_Any.fr {σ τ : ax_S} {p q k : Nat} (hB : bl_Any σ.1 p) (h : ax_fr q k σ τ) (hd : p + 8 ≤ q ∨ q + k ≤ p) : bl_Any τ.1 p := by
  obtain ⟨g, t, w, fl, fn, fb, fr, fk, fp, fu, B_o, B_lies, B_leans, B_bends, B_roads, B_kinds, B_paces, B_units⟩ := hB
  exact ⟨g, t, w, fl, fn, fb, fr, fk, fp, fu, h.at B_o (by omega), h.at B_lies (by omega), h.at B_leans (by omega), h.at B_bends (by omega), h.at B_roads (by omega), h.at B_kinds (by omega), h.at B_paces (by omega), h.at B_units (by omega)⟩
/-- behind a writing method of a ball: its answer, its new ball, nothing else changed -/
abbrev bl_Po (p : Nat) (σ : ax_S) (r0 : Option Value) (b : sp_B) : Option Value → ax_S → Prop := fun r τ => r = r0 ∧ (∃ fr, bl_Aw τ.1 p b fr) ∧ ax_fr p 8 σ τ
theorem c_Ball_clear {σ : ax_S} {p : Nat} (hB : bl_Any σ.1 p) : ax_N mX0_clear 1 0 0 [.ref p] σ (bl_Po p σ none sp_b0) := by
  obtain ⟨g, t, w, fl, fn, fb, fr, fk, fp, fu, B_o, B_lies, B_leans, B_bends, B_roads, B_kinds, B_paces, B_units⟩ := hB
  refine ax_N.of (ls := [some (.ref p)]) (by decide +kernel) rfl (Nat.le_of_ble_eq_true rfl) ?_
  refine ax_aload_n (pc' := 1) rfl dX0_clear_0 rfl ?_
  refine ax_sipush (pc' := 4) (v := (nI 1440)) ks_1440 dX0_clear_1 rfl ?_
  refine ax_putu (pc' := 7) fp_X0_33 B_o rfl (fun _ => ⟨rfl, rfl⟩) dX0_clear_4 rfl (fun s1 h1 => ?_)
  have B_o := ax_kS h1
  have B_lies := ax_kN h1 B_lies (by omega)
  have B_leans := ax_kN h1 B_leans (by omega)
  have B_bends := ax_kN h1 B_bends (by omega)
  have B_roads := ax_kN h1 B_roads (by omega)
  have B_kinds := ax_kN h1 B_kinds (by omega)
  have B_paces := ax_kN h1 B_paces (by omega)
  have B_units := ax_kN h1 B_units (by omega)
  refine ax_aload_n (pc' := 8) rfl dX0_clear_7 rfl ?_
  refine ax_iconst (pc' := 9) (v := (nI 0)) kc_0 dX0_clear_8 rfl ?_
  refine ax_putu (pc' := 12) fp_X0_37 B_o rfl (fun _ => ⟨rfl, rfl⟩) dX0_clear_9 rfl (fun s2 h2 => ?_)
  have B_o := ax_kS h2
  have B_lies := ax_kN h2 B_lies (by omega)
  have B_leans := ax_kN h2 B_leans (by omega)
  have B_bends := ax_kN h2 B_bends (by omega)
  have B_roads := ax_kN h2 B_roads (by omega)
  have B_kinds := ax_kN h2 B_kinds (by omega)
  have B_paces := ax_kN h2 B_paces (by omega)
  have B_units := ax_kN h2 B_units (by omega)
  refine ax_aload_n (pc' := 13) rfl dX0_clear_12 rfl ?_
  refine ax_iconst (pc' := 14) (v := (nI 0)) kc_0 dX0_clear_13 rfl ?_
  refine ax_putu (pc' := 17) fp_X0_40 B_o rfl (fun _ => ⟨rfl, rfl⟩) dX0_clear_14 rfl (fun s3 h3 => ?_)
  have B_o := ax_kS h3
  have B_lies := ax_kN h3 B_lies (by omega)
  have B_leans := ax_kN h3 B_leans (by omega)
  have B_bends := ax_kN h3 B_bends (by omega)
  have B_roads := ax_kN h3 B_roads (by omega)
  have B_kinds := ax_kN h3 B_kinds (by omega)
  have B_paces := ax_kN h3 B_paces (by omega)
  have B_units := ax_kN h3 B_units (by omega)
  refine ax_aload_n (pc' := 18) rfl dX0_clear_17 rfl ?_
  refine ax_getf (pc' := 21) fl_X0_18 B_o rfl dX0_clear_18 rfl ?_
  refine ax_bipush (pc' := 23) (v := (nI 10)) kb_10 dX0_clear_21 rfl ?_
  refine ax_callSU (pc' := 26) ls_X0_43 (c_fill B_bends (by decide)) rfl rfl (Nat.le_of_ble_eq_true rfl) (Nat.le_of_ble_eq_true rfl) dX0_clear_23 rfl (fun s4 h4 => ?_)
  have B_bends := ax_kS h4
  have B_o := ax_kN h4 B_o (by omega)
  have B_lies := ax_kN h4 B_lies (by omega)
  have B_leans := ax_kN h4 B_leans (by omega)
  have B_roads := ax_kN h4 B_roads (by omega)
  have B_kinds := ax_kN h4 B_kinds (by omega)
  have B_paces := ax_kN h4 B_paces (by omega)
  have B_units := ax_kN h4 B_units (by omega)
  refine ax_vret dX0_clear_26 rfl (Nat.le_refl 0) (Nat.le_refl 0) ⟨rfl, ⟨fr, fl, fn, _, fk, fp, fu, B_o, B_lies, B_leans, B_bends, B_roads, B_kinds, B_paces, B_units, fun t ht => absurd ht (Nat.not_lt_zero _), fun q hq => ?_, fun t ht => absurd ht (Nat.not_lt_zero _)⟩, ?_⟩
  · simp only [sp_copy, hq, if_true]
    rfl
  · exact (((ax_fr.rf.up h1 (by omega) (by omega)).up h2 (by omega) (by omega)).up h3 (by omega) (by omega)).up h4 (by omega) (by omega)
theorem c_acceptsGirthT {σ : ax_S} {p n : Nat} {b : sp_B} {fr : Nat → Int32} (hB : bl_Aw σ.1 p b fr) (h1 : 1 ≤ n) (h2 : n ≤ 99) : ax_N mX0_acceptsGirth 1 0 0 [.ref p, .int (nI n)] σ (bl_Po p σ (some (.int (nI 1))) (40 * n, b.2)) := by
  obtain ⟨fl, fn, fb, fk, fp, fu, B_o, B_lies, B_leans, B_bends, B_roads, B_kinds, B_paces, B_units, r1, r2, r3⟩ := hB
  refine ax_N.of (ls := [some (.ref p), some (.int (nI n))]) (by decide +kernel) rfl (Nat.le_of_ble_eq_true rfl) ?_
  refine ax_iload_n (pc' := 1) rfl dX0_acceptsGirth_0 rfl ?_
  refine ax_iconst (pc' := 2) (v := (nI 1)) kc_1 dX0_acceptsGirth_1 rfl ?_
  refine ax_bipush (pc' := 4) (v := (nI 99)) kb_99 dX0_acceptsGirth_2 rfl ?_
  refine ax_callSR (pc' := 7) ls_X0_64 (c_withinT (nI_le h1 (by omega)) (nI_le h2 (by decide))) rfl rfl (Nat.le_of_ble_eq_true rfl) (Nat.le_of_ble_eq_true rfl) dX0_acceptsGirth_4 rfl ?_
  refine ax_if_ne (pc' := 10) (tgt := 12) dX0_acceptsGirth_7 (by decide) rfl (fun _ => ?_) (fun hz => absurd hz (kz_1))
  refine ax_aload_n (pc' := 13) rfl dX0_acceptsGirth_12 rfl ?_
  refine ax_bipush (pc' := 15) (v := (nI 40)) kb_40 dX0_acceptsGirth_13 rfl ?_
  refine ax_iload_n (pc' := 16) rfl dX0_acceptsGirth_15 rfl ?_
  refine ax_imul (pc' := 17) dX0_acceptsGirth_16 rfl ?_
  refine ax_topi (pk_mul 40 n) ?_
  refine ax_putu (pc' := 20) fp_X0_33 B_o rfl (fun _ => ⟨rfl, rfl⟩) dX0_acceptsGirth_17 rfl (fun s1 h3 => ?_)
  have B_o := ax_kS h3
  have B_lies := ax_kN h3 B_lies (by omega)
  have B_leans := ax_kN h3 B_leans (by omega)
  have B_bends := ax_kN h3 B_bends (by omega)
  have B_roads := ax_kN h3 B_roads (by omega)
  have B_kinds := ax_kN h3 B_kinds (by omega)
  have B_paces := ax_kN h3 B_paces (by omega)
  have B_units := ax_kN h3 B_units (by omega)
  refine ax_iconst (pc' := 21) (v := (nI 1)) kc_1 dX0_acceptsGirth_20 rfl ?_
  exact ax_zret dX0_acceptsGirth_21 rfl (by decide) (Nat.le_of_ble_eq_true rfl) (Nat.le_of_ble_eq_true rfl) (⟨rfl, ⟨fr, fl, fn, fb, fk, fp, fu, B_o, B_lies, B_leans, B_bends, B_roads, B_kinds, B_paces, B_units, r1, r2, r3⟩, ax_fr.rf.up h3 (by omega) (by omega)⟩)
theorem c_acceptsGirthF {σ : ax_S} {p n : Nat} (hn : n ≤ 99) (h1 : ¬ 1 ≤ n) : ax_R mX0_acceptsGirth 1 [.ref p, .int (nI n)] σ (.int (nI 0)) := by
  refine ax_N.of (ls := [some (.ref p), some (.int (nI n))]) (by decide +kernel) rfl (Nat.le_of_ble_eq_true rfl) ?_
  refine ax_iload_n (pc' := 1) rfl dX0_acceptsGirth_0 rfl ?_
  refine ax_iconst (pc' := 2) (v := (nI 1)) kc_1 dX0_acceptsGirth_1 rfl ?_
  refine ax_bipush (pc' := 4) (v := (nI 99)) kb_99 dX0_acceptsGirth_2 rfl ?_
  refine ax_callSR (pc' := 7) ls_X0_64 (c_withinF (fun h => h1 ((nI_leI (by omega) (by omega)).mp h.1))) rfl rfl (Nat.le_of_ble_eq_true rfl) (Nat.le_of_ble_eq_true rfl) dX0_acceptsGirth_4 rfl ?_
  refine ax_if_ne (pc' := 10) (tgt := 12) dX0_acceptsGirth_7 (by decide) rfl (fun hz => absurd (kz_0) hz) (fun _ => ?_)
  refine ax_iconst (pc' := 11) (v := (nI 0)) kc_0 dX0_acceptsGirth_10 rfl ?_
  exact ax_zret dX0_acceptsGirth_11 rfl (by decide) (Nat.le_of_ble_eq_true rfl) (Nat.le_of_ble_eq_true rfl) (⟨rfl, rfl⟩)
theorem c_acceptsTownT {σ : ax_S} {p l v : Nat} {b : sp_B} {fr : Nat → Int32} (hB : bl_Aw σ.1 p b fr) (ht : b.2.1 < 6) (hl : l ≤ 80) (hv : v ≤ 8) : ax_N mX0_acceptsTown 1 0 0 [.ref p, .int (nI l), .int (nI v)] σ (bl_Po p σ (some (.int (nI 1))) (sp_bT b l v)) := by
  obtain ⟨fl, fn, fb, fk, fp, fu, B_o, B_lies, B_leans, B_bends, B_roads, B_kinds, B_paces, B_units, r1, r2, r3⟩ := hB
  refine ax_N.of (ls := [some (.ref p), some (.int (nI l)), some (.int (nI v))]) (by decide +kernel) rfl (Nat.le_of_ble_eq_true rfl) ?_
  refine ax_aload_n (pc' := 1) rfl dX0_acceptsTown_0 rfl ?_
  refine ax_getf (pc' := 4) fl_X0_37 B_o rfl dX0_acceptsTown_1 rfl ?_
  refine ax_bipush (pc' := 6) (v := (nI 6)) kb_6 dX0_acceptsTown_4 rfl ?_
  refine ax_icmp_ge (pc' := 9) (tgt := 29) dX0_acceptsTown_6 (by decide) rfl (fun hz => absurd hz (nI_ge ht (by decide))) (fun _ => ?_)
  refine ax_iload_n (pc' := 10) rfl dX0_acceptsTown_9 rfl ?_
  refine ax_iconst (pc' := 11) (v := (nI 0)) kc_0 dX0_acceptsTown_10 rfl ?_
  refine ax_bipush (pc' := 13) (v := (nI 80)) kb_80 dX0_acceptsTown_11 rfl ?_
  refine ax_callSR (pc' := 16) ls_X0_64 (c_withinT (nI_le (Nat.zero_le _) (by omega)) (nI_le hl (by decide))) rfl rfl (Nat.le_of_ble_eq_true rfl) (Nat.le_of_ble_eq_true rfl) dX0_acceptsTown_13 rfl ?_
  refine ax_if_eq (pc' := 19) (tgt := 29) dX0_acceptsTown_16 (by decide) rfl (fun hz => absurd hz (kz_1)) (fun _ => ?_)
  refine ax_iload_n (pc' := 20) rfl dX0_acceptsTown_19 rfl ?_
  refine ax_iconst (pc' := 21) (v := (nI 0)) kc_0 dX0_acceptsTown_20 rfl ?_
  refine ax_bipush (pc' := 23) (v := (nI 8)) kb_8 dX0_acceptsTown_21 rfl ?_
  refine ax_callSR (pc' := 26) ls_X0_64 (c_withinT (nI_le (Nat.zero_le _) (by omega)) (nI_le hv (by decide))) rfl rfl (Nat.le_of_ble_eq_true rfl) (Nat.le_of_ble_eq_true rfl) dX0_acceptsTown_23 rfl ?_
  refine ax_if_ne (pc' := 29) (tgt := 31) dX0_acceptsTown_26 (by decide) rfl (fun _ => ?_) (fun hz => absurd hz (kz_1))
  refine ax_aload_n (pc' := 32) rfl dX0_acceptsTown_31 rfl ?_
  refine ax_getf (pc' := 35) fl_X0_9 B_o rfl dX0_acceptsTown_32 rfl ?_
  refine ax_aload_n (pc' := 36) rfl dX0_acceptsTown_35 rfl ?_
  refine ax_getf (pc' := 39) fl_X0_37 B_o rfl dX0_acceptsTown_36 rfl ?_
  refine ax_iload_n (pc' := 40) rfl dX0_acceptsTown_39 rfl ?_
  refine ax_callSU (pc' := 43) ls_X0_67 (c_put B_lies ht (by decide)) rfl rfl (Nat.le_of_ble_eq_true rfl) (Nat.le_of_ble_eq_true rfl) dX0_acceptsTown_40 rfl (fun s1 h1 => ?_)
  have B_lies := ax_kS h1
  have B_o := ax_kN h1 B_o (by omega)
  have B_leans := ax_kN h1 B_leans (by omega)
  have B_bends := ax_kN h1 B_bends (by omega)
  have B_roads := ax_kN h1 B_roads (by omega)
  have B_kinds := ax_kN h1 B_kinds (by omega)
  have B_paces := ax_kN h1 B_paces (by omega)
  have B_units := ax_kN h1 B_units (by omega)
  refine ax_aload_n (pc' := 44) rfl dX0_acceptsTown_43 rfl ?_
  refine ax_getf (pc' := 47) fl_X0_15 B_o rfl dX0_acceptsTown_44 rfl ?_
  refine ax_aload_n (pc' := 48) rfl dX0_acceptsTown_47 rfl ?_
  refine ax_getf (pc' := 51) fl_X0_37 B_o rfl dX0_acceptsTown_48 rfl ?_
  refine ax_iload_n (pc' := 52) rfl dX0_acceptsTown_51 rfl ?_
  refine ax_iconst (pc' := 53) (v := (nI 4)) kc_4 dX0_acceptsTown_52 rfl ?_
  refine ax_isub (pc' := 54) dX0_acceptsTown_53 rfl ?_
  refine ax_callSU (pc' := 57) ls_X0_67 (c_put B_leans ht (by decide)) rfl rfl (Nat.le_of_ble_eq_true rfl) (Nat.le_of_ble_eq_true rfl) dX0_acceptsTown_54 rfl (fun s2 h2 => ?_)
  have B_leans := ax_kS h2
  have B_o := ax_kN h2 B_o (by omega)
  have B_lies := ax_kN h2 B_lies (by omega)
  have B_bends := ax_kN h2 B_bends (by omega)
  have B_roads := ax_kN h2 B_roads (by omega)
  have B_kinds := ax_kN h2 B_kinds (by omega)
  have B_paces := ax_kN h2 B_paces (by omega)
  have B_units := ax_kN h2 B_units (by omega)
  refine ax_aload_n (pc' := 58) rfl dX0_acceptsTown_57 rfl ?_
  refine ax_dup (pc' := 59) rfl dX0_acceptsTown_58 rfl ?_
  refine ax_getf (pc' := 62) fl_X0_37 B_o rfl dX0_acceptsTown_59 rfl ?_
  refine ax_iconst (pc' := 63) (v := (nI 1)) kc_1 dX0_acceptsTown_62 rfl ?_
  refine ax_iadd (pc' := 64) dX0_acceptsTown_63 rfl ?_
  refine ax_topi (nI_add _ 1) ?_
  refine ax_putu (pc' := 67) fp_X0_37 B_o rfl (fun _ => ⟨rfl, rfl⟩) dX0_acceptsTown_64 rfl (fun s3 h3 => ?_)
  have B_o := ax_kS h3
  have B_lies := ax_kN h3 B_lies (by omega)
  have B_leans := ax_kN h3 B_leans (by omega)
  have B_bends := ax_kN h3 B_bends (by omega)
  have B_roads := ax_kN h3 B_roads (by omega)
  have B_kinds := ax_kN h3 B_kinds (by omega)
  have B_paces := ax_kN h3 B_paces (by omega)
  have B_units := ax_kN h3 B_units (by omega)
  refine ax_iconst (pc' := 68) (v := (nI 1)) kc_1 dX0_acceptsTown_67 rfl ?_
  refine ax_zret dX0_acceptsTown_68 rfl (by decide) (Nat.le_refl 0) (Nat.le_refl 0) ⟨rfl, ⟨fr, _, _, fb, fk, fp, fu, B_o, B_lies, B_leans, B_bends, B_roads, B_kinds, B_paces, B_units, fun t h => ?_, r2, r3⟩, ?_⟩
  · by_cases e : t = b.2.1
    · subst e
      simp [upd, sp_bT, sp_L, sp_W, sp_up]
    · have h7 : t < b.2.1 := by have : t < b.2.1 + 1 := h; omega
      simp [upd, sp_bT, sp_L, sp_W, sp_up, e]
      exact r1 t h7
  · exact ((ax_fr.rf.up h1 (by omega) (by omega)).up h2 (by omega) (by omega)).up h3 (by omega) (by omega)
theorem c_acceptsTownF {σ : ax_S} {p l v : Nat} {b : sp_B} {fr : Nat → Int32} (hB : bl_Aw σ.1 p b fr) (h6 : b.2.1 ≤ 6) (hl0 : l ≤ 99) (hv0 : v ≤ 99) (hx : ¬ (b.2.1 < 6 ∧ l ≤ 80 ∧ v ≤ 8)) : ax_R mX0_acceptsTown 1 [.ref p, .int (nI l), .int (nI v)] σ (.int (nI 0)) := by
  obtain ⟨fl, fn, fb, fk, fp, fu, B_o, B_lies, B_leans, B_bends, B_roads, B_kinds, B_paces, B_units, r1, r2, r3⟩ := hB
  refine ax_N.of (ls := [some (.ref p), some (.int (nI l)), some (.int (nI v))]) (by decide +kernel) rfl (Nat.le_of_ble_eq_true rfl) ?_
  refine ax_aload_n (pc' := 1) rfl dX0_acceptsTown_0 rfl ?_
  refine ax_getf (pc' := 4) fl_X0_37 B_o rfl dX0_acceptsTown_1 rfl ?_
  refine ax_bipush (pc' := 6) (v := (nI 6)) kb_6 dX0_acceptsTown_4 rfl ?_
  by_cases ht : b.2.1 < 6
  · refine ax_icmp_ge (pc' := 9) (tgt := 29) dX0_acceptsTown_6 (by decide) rfl (fun hz => absurd hz (nI_ge ht (by decide))) (fun _ => ?_)
    refine ax_iload_n (pc' := 10) rfl dX0_acceptsTown_9 rfl ?_
    refine ax_iconst (pc' := 11) (v := (nI 0)) kc_0 dX0_acceptsTown_10 rfl ?_
    refine ax_bipush (pc' := 13) (v := (nI 80)) kb_80 dX0_acceptsTown_11 rfl ?_
    by_cases hl : l ≤ 80
    · refine ax_callSR (pc' := 16) ls_X0_64 (c_withinT (nI_le (Nat.zero_le _) (by omega)) (nI_le hl (by decide))) rfl rfl (Nat.le_of_ble_eq_true rfl) (Nat.le_of_ble_eq_true rfl) dX0_acceptsTown_13 rfl ?_
      refine ax_if_eq (pc' := 19) (tgt := 29) dX0_acceptsTown_16 (by decide) rfl (fun hz => absurd hz (kz_1)) (fun _ => ?_)
      refine ax_iload_n (pc' := 20) rfl dX0_acceptsTown_19 rfl ?_
      refine ax_iconst (pc' := 21) (v := (nI 0)) kc_0 dX0_acceptsTown_20 rfl ?_
      refine ax_bipush (pc' := 23) (v := (nI 8)) kb_8 dX0_acceptsTown_21 rfl ?_
      refine ax_callSR (pc' := 26) ls_X0_64 (c_withinF (fun h => hx ⟨ht, hl, (nI_leI (by omega) (by omega)).mp h.2⟩)) rfl rfl (Nat.le_of_ble_eq_true rfl) (Nat.le_of_ble_eq_true rfl) dX0_acceptsTown_23 rfl ?_
      refine ax_if_ne (pc' := 29) (tgt := 31) dX0_acceptsTown_26 (by decide) rfl (fun hz => absurd (kz_0) hz) (fun _ => ?_)
      refine ax_iconst (pc' := 30) (v := (nI 0)) kc_0 dX0_acceptsTown_29 rfl ?_
      exact ax_zret dX0_acceptsTown_30 rfl (by decide) (Nat.le_of_ble_eq_true rfl) (Nat.le_of_ble_eq_true rfl) (⟨rfl, rfl⟩)
    · refine ax_callSR (pc' := 16) ls_X0_64 (c_withinF (fun h => hl ((nI_leI (by omega) (by omega)).mp h.2))) rfl rfl (Nat.le_of_ble_eq_true rfl) (Nat.le_of_ble_eq_true rfl) dX0_acceptsTown_13 rfl ?_
      refine ax_if_eq (pc' := 19) (tgt := 29) dX0_acceptsTown_16 (by decide) rfl (fun _ => ?_) (fun hz => absurd (kz_0) hz)
      refine ax_iconst (pc' := 30) (v := (nI 0)) kc_0 dX0_acceptsTown_29 rfl ?_
      exact ax_zret dX0_acceptsTown_30 rfl (by decide) (Nat.le_of_ble_eq_true rfl) (Nat.le_of_ble_eq_true rfl) (⟨rfl, rfl⟩)
  · refine ax_icmp_ge (pc' := 9) (tgt := 29) dX0_acceptsTown_6 (by decide) rfl (fun _ => ?_) (fun hz => absurd (nI_le (by omega) (by omega)) hz)
    refine ax_iconst (pc' := 30) (v := (nI 0)) kc_0 dX0_acceptsTown_29 rfl ?_
    exact ax_zret dX0_acceptsTown_30 rfl (by decide) (Nat.le_of_ble_eq_true rfl) (Nat.le_of_ble_eq_true rfl) (⟨rfl, rfl⟩)
theorem ax_ix2 {a c : Nat} : nI a * nI 6 + nI c = nI (6 * a + c) := ax_ix
theorem c_acceptsRoadT {σ : ax_S} {p a c r : Nat} {b : sp_B} {fr : Nat → Int32} (hB : bl_Aw σ.1 p b fr) (h6 : b.2.1 ≤ 6) (ha : a < b.2.1) (hc : c < b.2.1) (hac : a ≠ c) (hr : r ≤ 50) : ax_N mX0_acceptsRoad 2 0 0 [.ref p, .int (nI a), .int (nI c), .int (nI r)] σ (bl_Po p σ (some (.int (nI 1))) (sp_bR b a c r)) := by
  have s0 := c_areTwoTownsT hB h6 ha hc hac
  obtain ⟨fl, fn, fb, fk, fp, fu, B_o, B_lies, B_leans, B_bends, B_roads, B_kinds, B_paces, B_units, r1, r2, r3⟩ := hB
  refine ax_N.of (ls := [some (.ref p), some (.int (nI a)), some (.int (nI c)), some (.int (nI r))]) (by decide +kernel) rfl (Nat.le_of_ble_eq_true rfl) ?_
  refine ax_aload_n (pc' := 1) rfl dX0_acceptsRoad_0 rfl ?_
  refine ax_iload_n (pc' := 2) rfl dX0_acceptsRoad_1 rfl ?_
  refine ax_iload_n (pc' := 3) rfl dX0_acceptsRoad_2 rfl ?_
  refine ax_callVR (pc' := 6) lv_X0_71 (s0) B_o rfl rfl (Nat.le_of_ble_eq_true rfl) (Nat.le_of_ble_eq_true rfl) dX0_acceptsRoad_3 rfl ?_
  refine ax_if_eq (pc' := 9) (tgt := 19) dX0_acceptsRoad_6 (by decide) rfl (fun hz => absurd hz (kz_1)) (fun _ => ?_)
  refine ax_iload_n (pc' := 10) rfl dX0_acceptsRoad_9 rfl ?_
  refine ax_iconst (pc' := 11) (v := (nI 0)) kc_0 dX0_acceptsRoad_10 rfl ?_
  refine ax_bipush (pc' := 13) (v := (nI 50)) kb_50 dX0_acceptsRoad_11 rfl ?_
  refine ax_callSR (pc' := 16) ls_X0_64 (c_withinT (nI_le (Nat.zero_le _) (by omega)) (nI_le hr (by decide))) rfl rfl (Nat.le_of_ble_eq_true rfl) (Nat.le_of_ble_eq_true rfl) dX0_acceptsRoad_13 rfl ?_
  refine ax_if_ne (pc' := 19) (tgt := 21) dX0_acceptsRoad_16 (by decide) rfl (fun _ => ?_) (fun hz => absurd hz (kz_1))
  refine ax_aload_n (pc' := 22) rfl dX0_acceptsRoad_21 rfl ?_
  refine ax_getf (pc' := 25) fl_X0_18 B_o rfl dX0_acceptsRoad_22 rfl ?_
  refine ax_iload_n (pc' := 26) rfl dX0_acceptsRoad_25 rfl ?_
  refine ax_bipush (pc' := 28) (v := (nI 6)) kb_6 dX0_acceptsRoad_26 rfl ?_
  refine ax_imul (pc' := 29) dX0_acceptsRoad_28 rfl ?_
  refine ax_iload_n (pc' := 30) rfl dX0_acceptsRoad_29 rfl ?_
  refine ax_iadd (pc' := 31) dX0_acceptsRoad_30 rfl ?_
  refine ax_topi ax_ix ?_
  refine ax_iload_n (pc' := 32) rfl dX0_acceptsRoad_31 rfl ?_
  refine ax_callSU (pc' := 35) ls_X0_67 (c_put B_bends (j := 6 * a + c) (by omega) (by decide)) rfl rfl (Nat.le_of_ble_eq_true rfl) (Nat.le_of_ble_eq_true rfl) dX0_acceptsRoad_32 rfl (fun s1 h1 => ?_)
  have B_bends := ax_kS h1
  have B_o := ax_kN h1 B_o (by omega)
  have B_lies := ax_kN h1 B_lies (by omega)
  have B_leans := ax_kN h1 B_leans (by omega)
  have B_roads := ax_kN h1 B_roads (by omega)
  have B_kinds := ax_kN h1 B_kinds (by omega)
  have B_paces := ax_kN h1 B_paces (by omega)
  have B_units := ax_kN h1 B_units (by omega)
  refine ax_aload_n (pc' := 36) rfl dX0_acceptsRoad_35 rfl ?_
  refine ax_getf (pc' := 39) fl_X0_18 B_o rfl dX0_acceptsRoad_36 rfl ?_
  refine ax_iload_n (pc' := 40) rfl dX0_acceptsRoad_39 rfl ?_
  refine ax_bipush (pc' := 42) (v := (nI 6)) kb_6 dX0_acceptsRoad_40 rfl ?_
  refine ax_imul (pc' := 43) dX0_acceptsRoad_42 rfl ?_
  refine ax_iload_n (pc' := 44) rfl dX0_acceptsRoad_43 rfl ?_
  refine ax_iadd (pc' := 45) dX0_acceptsRoad_44 rfl ?_
  refine ax_topi ax_ix ?_
  refine ax_iload_n (pc' := 46) rfl dX0_acceptsRoad_45 rfl ?_
  refine ax_callSU (pc' := 49) ls_X0_67 (c_put B_bends (j := 6 * c + a) (by omega) (by decide)) rfl rfl (Nat.le_of_ble_eq_true rfl) (Nat.le_of_ble_eq_true rfl) dX0_acceptsRoad_46 rfl (fun s2 h2 => ?_)
  have B_bends := ax_kS h2
  have B_o := ax_kN h2 B_o (by omega)
  have B_lies := ax_kN h2 B_lies (by omega)
  have B_leans := ax_kN h2 B_leans (by omega)
  have B_roads := ax_kN h2 B_roads (by omega)
  have B_kinds := ax_kN h2 B_kinds (by omega)
  have B_paces := ax_kN h2 B_paces (by omega)
  have B_units := ax_kN h2 B_units (by omega)
  refine ax_iconst (pc' := 50) (v := (nI 1)) kc_1 dX0_acceptsRoad_49 rfl ?_
  refine ax_zret dX0_acceptsRoad_50 rfl (by decide) (Nat.le_refl 0) (Nat.le_refl 0) ⟨rfl, ⟨fr, fl, fn, _, fk, fp, fu, B_o, B_lies, B_leans, B_bends, B_roads, B_kinds, B_paces, B_units, r1, fun q hq => ?_, r3⟩, ?_⟩
  · by_cases e1 : q = 6 * c + a
    · simp [upd, sp_bR, sp_R, sp_up, e1]
    · by_cases e2 : q = 6 * a + c
      · simp [upd, sp_bR, sp_R, sp_up, e2]
      · simp [upd, sp_bR, sp_R, sp_up, e1, e2]
        exact r2 q hq
  · exact (ax_fr.rf.up h1 (by omega) (by omega)).up h2 (by omega) (by omega)
theorem c_acceptsRoadF {σ : ax_S} {p a c r : Nat} {b : sp_B} {fr : Nat → Int32} (hB : bl_Aw σ.1 p b fr) (h6 : b.2.1 ≤ 6) (ha0 : a ≤ 99) (hc0 : c ≤ 99) (hr0 : r ≤ 99) (hx : ¬ (a < b.2.1 ∧ c < b.2.1 ∧ a ≠ c ∧ r ≤ 50)) : ax_R mX0_acceptsRoad 2 [.ref p, .int (nI a), .int (nI c), .int (nI r)] σ (.int (nI 0)) := by
  have hB0 := hB
  obtain ⟨fl, fn, fb, fk, fp, fu, B_o, B_lies, B_leans, B_bends, B_roads, B_kinds, B_paces, B_units, r1, r2, r3⟩ := hB
  refine ax_N.of (ls := [some (.ref p), some (.int (nI a)), some (.int (nI c)), some (.int (nI r))]) (by decide +kernel) rfl (Nat.le_of_ble_eq_true rfl) ?_
  refine ax_aload_n (pc' := 1) rfl dX0_acceptsRoad_0 rfl ?_
  refine ax_iload_n (pc' := 2) rfl dX0_acceptsRoad_1 rfl ?_
  refine ax_iload_n (pc' := 3) rfl dX0_acceptsRoad_2 rfl ?_
  by_cases ht : a < b.2.1 ∧ c < b.2.1 ∧ a ≠ c
  · refine ax_callVR (pc' := 6) lv_X0_71 (c_areTwoTownsT hB0 h6 ht.1 ht.2.1 ht.2.2) B_o rfl rfl (Nat.le_of_ble_eq_true rfl) (Nat.le_of_ble_eq_true rfl) dX0_acceptsRoad_3 rfl ?_
    refine ax_if_eq (pc' := 9) (tgt := 19) dX0_acceptsRoad_6 (by decide) rfl (fun hz => absurd hz (kz_1)) (fun _ => ?_)
    refine ax_iload_n (pc' := 10) rfl dX0_acceptsRoad_9 rfl ?_
    refine ax_iconst (pc' := 11) (v := (nI 0)) kc_0 dX0_acceptsRoad_10 rfl ?_
    refine ax_bipush (pc' := 13) (v := (nI 50)) kb_50 dX0_acceptsRoad_11 rfl ?_
    refine ax_callSR (pc' := 16) ls_X0_64 (c_withinF (fun h => hx ⟨ht.1, ht.2.1, ht.2.2, (nI_leI (by omega) (by omega)).mp h.2⟩)) rfl rfl (Nat.le_of_ble_eq_true rfl) (Nat.le_of_ble_eq_true rfl) dX0_acceptsRoad_13 rfl ?_
    refine ax_if_ne (pc' := 19) (tgt := 21) dX0_acceptsRoad_16 (by decide) rfl (fun hz => absurd (kz_0) hz) (fun _ => ?_)
    refine ax_iconst (pc' := 20) (v := (nI 0)) kc_0 dX0_acceptsRoad_19 rfl ?_
    exact ax_zret dX0_acceptsRoad_20 rfl (by decide) (Nat.le_of_ble_eq_true rfl) (Nat.le_of_ble_eq_true rfl) (⟨rfl, rfl⟩)
  · refine ax_callVR (pc' := 6) lv_X0_71 (c_areTwoTownsF hB0 h6 (fun ⟨i, j, hi, hj, hij, e1, e2⟩ => ht (by rw [nI_eq (by omega) (by omega)] at e1 e2; subst e1; subst e2; exact ⟨hi, hj, hij⟩))) B_o rfl rfl (Nat.le_of_ble_eq_true rfl) (Nat.le_of_ble_eq_true rfl) dX0_acceptsRoad_3 rfl ?_
    refine ax_if_eq (pc' := 9) (tgt := 19) dX0_acceptsRoad_6 (by decide) rfl (fun _ => ?_) (fun hz => absurd (kz_0) hz)
    refine ax_iconst (pc' := 20) (v := (nI 0)) kc_0 dX0_acceptsRoad_19 rfl ?_
    exact ax_zret dX0_acceptsRoad_20 rfl (by decide) (Nat.le_of_ble_eq_true rfl) (Nat.le_of_ble_eq_true rfl) (⟨rfl, rfl⟩)
theorem c_acceptsWalkerT {σ : ax_S} {p kd pa u : Nat} {b : sp_B} {fr : Nat → Int32} (hB : bl_Aw σ.1 p b fr) (hw : b.2.2.1 < 4) (hk : kd ≤ 3) (hp1 : 1 ≤ pa) (hp2 : pa ≤ 40) (hu1 : 1 ≤ u) (hu2 : u ≤ 9) : ax_N mX0_acceptsWalker 1 0 0 [.ref p, .int (nI kd), .int (nI pa), .int (nI u)] σ (bl_Po p σ (some (.int (nI 1))) (sp_bW b kd pa u)) := by
  obtain ⟨fl, fn, fb, fk, fp, fu, B_o, B_lies, B_leans, B_bends, B_roads, B_kinds, B_paces, B_units, r1, r2, r3⟩ := hB
  refine ax_N.of (ls := [some (.ref p), some (.int (nI kd)), some (.int (nI pa)), some (.int (nI u))]) (by decide +kernel) rfl (Nat.le_of_ble_eq_true rfl) ?_
  refine ax_aload_n (pc' := 1) rfl dX0_acceptsWalker_0 rfl ?_
  refine ax_getf (pc' := 4) fl_X0_40 B_o rfl dX0_acceptsWalker_1 rfl ?_
  refine ax_iconst (pc' := 5) (v := (nI 4)) kc_4 dX0_acceptsWalker_4 rfl ?_
  refine ax_icmp_ge (pc' := 8) (tgt := 37) dX0_acceptsWalker_5 (by decide) rfl (fun hz => absurd hz (nI_ge hw (by decide))) (fun _ => ?_)
  refine ax_iload_n (pc' := 9) rfl dX0_acceptsWalker_8 rfl ?_
  refine ax_iconst (pc' := 10) (v := (nI 0)) kc_0 dX0_acceptsWalker_9 rfl ?_
  refine ax_iconst (pc' := 11) (v := (nI 3)) kc_3 dX0_acceptsWalker_10 rfl ?_
  refine ax_callSR (pc' := 14) ls_X0_64 (c_withinT (nI_le (Nat.zero_le _) (by omega)) (nI_le hk (by decide))) rfl rfl (Nat.le_of_ble_eq_true rfl) (Nat.le_of_ble_eq_true rfl) dX0_acceptsWalker_11 rfl ?_
  refine ax_if_eq (pc' := 17) (tgt := 37) dX0_acceptsWalker_14 (by decide) rfl (fun hz => absurd hz (kz_1)) (fun _ => ?_)
  refine ax_iload_n (pc' := 18) rfl dX0_acceptsWalker_17 rfl ?_
  refine ax_iconst (pc' := 19) (v := (nI 1)) kc_1 dX0_acceptsWalker_18 rfl ?_
  refine ax_bipush (pc' := 21) (v := (nI 40)) kb_40 dX0_acceptsWalker_19 rfl ?_
  refine ax_callSR (pc' := 24) ls_X0_64 (c_withinT (nI_le hp1 (by omega)) (nI_le hp2 (by decide))) rfl rfl (Nat.le_of_ble_eq_true rfl) (Nat.le_of_ble_eq_true rfl) dX0_acceptsWalker_21 rfl ?_
  refine ax_if_eq (pc' := 27) (tgt := 37) dX0_acceptsWalker_24 (by decide) rfl (fun hz => absurd hz (kz_1)) (fun _ => ?_)
  refine ax_iload_n (pc' := 28) rfl dX0_acceptsWalker_27 rfl ?_
  refine ax_iconst (pc' := 29) (v := (nI 1)) kc_1 dX0_acceptsWalker_28 rfl ?_
  refine ax_bipush (pc' := 31) (v := (nI 9)) kb_9 dX0_acceptsWalker_29 rfl ?_
  refine ax_callSR (pc' := 34) ls_X0_64 (c_withinT (nI_le hu1 (by omega)) (nI_le hu2 (by decide))) rfl rfl (Nat.le_of_ble_eq_true rfl) (Nat.le_of_ble_eq_true rfl) dX0_acceptsWalker_31 rfl ?_
  refine ax_if_ne (pc' := 37) (tgt := 39) dX0_acceptsWalker_34 (by decide) rfl (fun _ => ?_) (fun hz => absurd hz (kz_1))
  refine ax_aload_n (pc' := 40) rfl dX0_acceptsWalker_39 rfl ?_
  refine ax_getf (pc' := 43) fl_X0_24 B_o rfl dX0_acceptsWalker_40 rfl ?_
  refine ax_aload_n (pc' := 44) rfl dX0_acceptsWalker_43 rfl ?_
  refine ax_getf (pc' := 47) fl_X0_40 B_o rfl dX0_acceptsWalker_44 rfl ?_
  refine ax_iload_n (pc' := 48) rfl dX0_acceptsWalker_47 rfl ?_
  refine ax_callSU (pc' := 51) ls_X0_67 (c_put B_kinds hw (by decide)) rfl rfl (Nat.le_of_ble_eq_true rfl) (Nat.le_of_ble_eq_true rfl) dX0_acceptsWalker_48 rfl (fun s1 h1 => ?_)
  have B_kinds := ax_kS h1
  have B_o := ax_kN h1 B_o (by omega)
  have B_lies := ax_kN h1 B_lies (by omega)
  have B_leans := ax_kN h1 B_leans (by omega)
  have B_bends := ax_kN h1 B_bends (by omega)
  have B_roads := ax_kN h1 B_roads (by omega)
  have B_paces := ax_kN h1 B_paces (by omega)
  have B_units := ax_kN h1 B_units (by omega)
  refine ax_aload_n (pc' := 52) rfl dX0_acceptsWalker_51 rfl ?_
  refine ax_getf (pc' := 55) fl_X0_27 B_o rfl dX0_acceptsWalker_52 rfl ?_
  refine ax_aload_n (pc' := 56) rfl dX0_acceptsWalker_55 rfl ?_
  refine ax_getf (pc' := 59) fl_X0_40 B_o rfl dX0_acceptsWalker_56 rfl ?_
  refine ax_iload_n (pc' := 60) rfl dX0_acceptsWalker_59 rfl ?_
  refine ax_callSU (pc' := 63) ls_X0_67 (c_put B_paces hw (by decide)) rfl rfl (Nat.le_of_ble_eq_true rfl) (Nat.le_of_ble_eq_true rfl) dX0_acceptsWalker_60 rfl (fun s2 h2 => ?_)
  have B_paces := ax_kS h2
  have B_o := ax_kN h2 B_o (by omega)
  have B_lies := ax_kN h2 B_lies (by omega)
  have B_leans := ax_kN h2 B_leans (by omega)
  have B_bends := ax_kN h2 B_bends (by omega)
  have B_roads := ax_kN h2 B_roads (by omega)
  have B_kinds := ax_kN h2 B_kinds (by omega)
  have B_units := ax_kN h2 B_units (by omega)
  refine ax_aload_n (pc' := 64) rfl dX0_acceptsWalker_63 rfl ?_
  refine ax_getf (pc' := 67) fl_X0_30 B_o rfl dX0_acceptsWalker_64 rfl ?_
  refine ax_aload_n (pc' := 68) rfl dX0_acceptsWalker_67 rfl ?_
  refine ax_getf (pc' := 71) fl_X0_40 B_o rfl dX0_acceptsWalker_68 rfl ?_
  refine ax_iload_n (pc' := 72) rfl dX0_acceptsWalker_71 rfl ?_
  refine ax_callSU (pc' := 75) ls_X0_67 (c_put B_units hw (by decide)) rfl rfl (Nat.le_of_ble_eq_true rfl) (Nat.le_of_ble_eq_true rfl) dX0_acceptsWalker_72 rfl (fun s3 h3 => ?_)
  have B_units := ax_kS h3
  have B_o := ax_kN h3 B_o (by omega)
  have B_lies := ax_kN h3 B_lies (by omega)
  have B_leans := ax_kN h3 B_leans (by omega)
  have B_bends := ax_kN h3 B_bends (by omega)
  have B_roads := ax_kN h3 B_roads (by omega)
  have B_kinds := ax_kN h3 B_kinds (by omega)
  have B_paces := ax_kN h3 B_paces (by omega)
  refine ax_aload_n (pc' := 76) rfl dX0_acceptsWalker_75 rfl ?_
  refine ax_dup (pc' := 77) rfl dX0_acceptsWalker_76 rfl ?_
  refine ax_getf (pc' := 80) fl_X0_40 B_o rfl dX0_acceptsWalker_77 rfl ?_
  refine ax_iconst (pc' := 81) (v := (nI 1)) kc_1 dX0_acceptsWalker_80 rfl ?_
  refine ax_iadd (pc' := 82) dX0_acceptsWalker_81 rfl ?_
  refine ax_topi (nI_add _ 1) ?_
  refine ax_putu (pc' := 85) fp_X0_40 B_o rfl (fun _ => ⟨rfl, rfl⟩) dX0_acceptsWalker_82 rfl (fun s4 h4 => ?_)
  have B_o := ax_kS h4
  have B_lies := ax_kN h4 B_lies (by omega)
  have B_leans := ax_kN h4 B_leans (by omega)
  have B_bends := ax_kN h4 B_bends (by omega)
  have B_roads := ax_kN h4 B_roads (by omega)
  have B_kinds := ax_kN h4 B_kinds (by omega)
  have B_paces := ax_kN h4 B_paces (by omega)
  have B_units := ax_kN h4 B_units (by omega)
  refine ax_iconst (pc' := 86) (v := (nI 1)) kc_1 dX0_acceptsWalker_85 rfl ?_
  refine ax_zret dX0_acceptsWalker_86 rfl (by decide) (Nat.le_refl 0) (Nat.le_refl 0) ⟨rfl, ⟨fr, fl, fn, fb, _, _, _, B_o, B_lies, B_leans, B_bends, B_roads, B_kinds, B_paces, B_units, r1, r2, fun t h => ?_⟩, ?_⟩
  · by_cases e : t = b.2.2.1
    · subst e
      simp [upd, sp_bW, sp_K, sp_P, sp_U, sp_up]
    · have h7 : t < b.2.2.1 := by have : t < b.2.2.1 + 1 := h; omega
      simp [upd, sp_bW, sp_K, sp_P, sp_U, sp_up, e]
      exact r3 t h7
  · exact (((ax_fr.rf.up h1 (by omega) (by omega)).up h2 (by omega) (by omega)).up h3 (by omega) (by omega)).up h4 (by omega) (by omega)
theorem c_acceptsWalkerF {σ : ax_S} {p kd pa u : Nat} {b : sp_B} {fr : Nat → Int32} (hB : bl_Aw σ.1 p b fr) (h4 : b.2.2.1 ≤ 4) (hk0 : kd ≤ 99) (hp0 : pa ≤ 99) (hu0 : u ≤ 99) (hx : ¬ (b.2.2.1 < 4 ∧ kd ≤ 3 ∧ (1 ≤ pa ∧ pa ≤ 40) ∧ 1 ≤ u ∧ u ≤ 9)) : ax_R mX0_acceptsWalker 1 [.ref p, .int (nI kd), .int (nI pa), .int (nI u)] σ (.int (nI 0)) := by
  obtain ⟨fl, fn, fb, fk, fp, fu, B_o, B_lies, B_leans, B_bends, B_roads, B_kinds, B_paces, B_units, r1, r2, r3⟩ := hB
  refine ax_N.of (ls := [some (.ref p), some (.int (nI kd)), some (.int (nI pa)), some (.int (nI u))]) (by decide +kernel) rfl (Nat.le_of_ble_eq_true rfl) ?_
  refine ax_aload_n (pc' := 1) rfl dX0_acceptsWalker_0 rfl ?_
  refine ax_getf (pc' := 4) fl_X0_40 B_o rfl dX0_acceptsWalker_1 rfl ?_
  refine ax_iconst (pc' := 5) (v := (nI 4)) kc_4 dX0_acceptsWalker_4 rfl ?_
  by_cases ht : b.2.2.1 < 4
  · refine ax_icmp_ge (pc' := 8) (tgt := 37) dX0_acceptsWalker_5 (by decide) rfl (fun hz => absurd hz (nI_ge ht (by decide))) (fun _ => ?_)
    refine ax_iload_n (pc' := 9) rfl dX0_acceptsWalker_8 rfl ?_
    refine ax_iconst (pc' := 10) (v := (nI 0)) kc_0 dX0_acceptsWalker_9 rfl ?_
    refine ax_iconst (pc' := 11) (v := (nI 3)) kc_3 dX0_acceptsWalker_10 rfl ?_
    by_cases hk : kd ≤ 3
    · refine ax_callSR (pc' := 14) ls_X0_64 (c_withinT (nI_le (Nat.zero_le _) (by omega)) (nI_le hk (by decide))) rfl rfl (Nat.le_of_ble_eq_true rfl) (Nat.le_of_ble_eq_true rfl) dX0_acceptsWalker_11 rfl ?_
      refine ax_if_eq (pc' := 17) (tgt := 37) dX0_acceptsWalker_14 (by decide) rfl (fun hz => absurd hz (kz_1)) (fun _ => ?_)
      refine ax_iload_n (pc' := 18) rfl dX0_acceptsWalker_17 rfl ?_
      refine ax_iconst (pc' := 19) (v := (nI 1)) kc_1 dX0_acceptsWalker_18 rfl ?_
      refine ax_bipush (pc' := 21) (v := (nI 40)) kb_40 dX0_acceptsWalker_19 rfl ?_
      by_cases hp : 1 ≤ pa ∧ pa ≤ 40
      · refine ax_callSR (pc' := 24) ls_X0_64 (c_withinT (nI_le hp.1 (by omega)) (nI_le hp.2 (by decide))) rfl rfl (Nat.le_of_ble_eq_true rfl) (Nat.le_of_ble_eq_true rfl) dX0_acceptsWalker_21 rfl ?_
        refine ax_if_eq (pc' := 27) (tgt := 37) dX0_acceptsWalker_24 (by decide) rfl (fun hz => absurd hz (kz_1)) (fun _ => ?_)
        refine ax_iload_n (pc' := 28) rfl dX0_acceptsWalker_27 rfl ?_
        refine ax_iconst (pc' := 29) (v := (nI 1)) kc_1 dX0_acceptsWalker_28 rfl ?_
        refine ax_bipush (pc' := 31) (v := (nI 9)) kb_9 dX0_acceptsWalker_29 rfl ?_
        refine ax_callSR (pc' := 34) ls_X0_64 (c_withinF (fun h => hx ⟨ht, hk, hp, (nI_leI (by omega) (by omega)).mp h.1, (nI_leI (by omega) (by omega)).mp h.2⟩)) rfl rfl (Nat.le_of_ble_eq_true rfl) (Nat.le_of_ble_eq_true rfl) dX0_acceptsWalker_31 rfl ?_
        refine ax_if_ne (pc' := 37) (tgt := 39) dX0_acceptsWalker_34 (by decide) rfl (fun hz => absurd (kz_0) hz) (fun _ => ?_)
        refine ax_iconst (pc' := 38) (v := (nI 0)) kc_0 dX0_acceptsWalker_37 rfl ?_
        exact ax_zret dX0_acceptsWalker_38 rfl (by decide) (Nat.le_of_ble_eq_true rfl) (Nat.le_of_ble_eq_true rfl) (⟨rfl, rfl⟩)
      · refine ax_callSR (pc' := 24) ls_X0_64 (c_withinF (fun h => hp ⟨(nI_leI (by omega) (by omega)).mp h.1, (nI_leI (by omega) (by omega)).mp h.2⟩)) rfl rfl (Nat.le_of_ble_eq_true rfl) (Nat.le_of_ble_eq_true rfl) dX0_acceptsWalker_21 rfl ?_
        refine ax_if_eq (pc' := 27) (tgt := 37) dX0_acceptsWalker_24 (by decide) rfl (fun _ => ?_) (fun hz => absurd (kz_0) hz)
        refine ax_iconst (pc' := 38) (v := (nI 0)) kc_0 dX0_acceptsWalker_37 rfl ?_
        exact ax_zret dX0_acceptsWalker_38 rfl (by decide) (Nat.le_of_ble_eq_true rfl) (Nat.le_of_ble_eq_true rfl) (⟨rfl, rfl⟩)
    · refine ax_callSR (pc' := 14) ls_X0_64 (c_withinF (fun h => hk ((nI_leI (by omega) (by omega)).mp h.2))) rfl rfl (Nat.le_of_ble_eq_true rfl) (Nat.le_of_ble_eq_true rfl) dX0_acceptsWalker_11 rfl ?_
      refine ax_if_eq (pc' := 17) (tgt := 37) dX0_acceptsWalker_14 (by decide) rfl (fun _ => ?_) (fun hz => absurd (kz_0) hz)
      refine ax_iconst (pc' := 38) (v := (nI 0)) kc_0 dX0_acceptsWalker_37 rfl ?_
      exact ax_zret dX0_acceptsWalker_38 rfl (by decide) (Nat.le_of_ble_eq_true rfl) (Nat.le_of_ble_eq_true rfl) (⟨rfl, rfl⟩)
  · refine ax_icmp_ge (pc' := 8) (tgt := 37) dX0_acceptsWalker_5 (by decide) rfl (fun _ => ?_) (fun hz => absurd (nI_le (by omega) (by omega)) hz)
    refine ax_iconst (pc' := 38) (v := (nI 0)) kc_0 dX0_acceptsWalker_37 rfl ?_
    exact ax_zret dX0_acceptsWalker_38 rfl (by decide) (Nat.le_of_ble_eq_true rfl) (Nat.le_of_ble_eq_true rfl) (⟨rfl, rfl⟩)

def sp_want (ch : Nat) : Nat := if ch = 103 then 1 else if ch = 116 then 2 else if ch = 114 then 3 else if ch = 119 then 3 else 0
/-- an ITEM of that letter and these numbers, read onto b -/
def sp_item (b : sp_B) (ch n1 n2 n3 : Nat) : Option sp_B :=
  if ch = 103 then (if 1 ≤ n1 ∧ n1 ≤ 99 then some (40 * n1, b.2) else none)
  else if ch = 116 then (if b.2.1 < 6 ∧ n1 ≤ 80 ∧ n2 ≤ 8 then some (sp_bT b n1 n2) else none)
  else if ch = 114 then (if n1 < b.2.1 ∧ n2 < b.2.1 ∧ n1 ≠ n2 ∧ n3 ≤ 50 then some (sp_bR b n1 n2 n3) else none)
  else if ch = 119 then (if b.2.2.1 < 4 ∧ n1 ≤ 3 ∧ (1 ≤ n2 ∧ n2 ≤ 40) ∧ 1 ≤ n3 ∧ n3 ≤ 9 then some (sp_bW b n1 n2 n3) else none)
  else none
theorem sp_item_ok {b b' : sp_B} {ch n1 n2 n3 : Nat} (hb : sp_ok b) (h : sp_item b ch n1 n2 n3 = some b') : sp_ok b' := by
  obtain ⟨h1, h2, h3, h4, h5, h6⟩ := hb
  unfold sp_item at h
  split at h
  · split at h
    · cases h
      exact ⟨⟨by show 40 ≤ 40 * n1; omega, by show 40 * n1 ≤ 3960; omega⟩, h2, h3, h4, h5, h6⟩
    · cases h
  split at h
  · split at h
    · cases h
      refine ⟨h1, by show b.2.1 + 1 ≤ 6; omega, h3, fun t => ?_, h5, h6⟩
      have := h4 t
      simp only [sp_bT, sp_L, sp_W, sp_up] at this ⊢
      constructor <;> split <;> omega
    · cases h
  split at h
  · split at h
    · cases h
      refine ⟨h1, h2, h3, h4, fun q => ?_, h6⟩
      have := h5 q
      simp only [sp_bR, sp_R, sp_up] at this ⊢
      split
      · omega
      · split <;> omega
    · cases h
  split at h
  · split at h
    · cases h
      refine ⟨h1, h2, by show b.2.2.1 + 1 ≤ 4; omega, h4, h5, fun q => ?_⟩
      have := h6 q
      simp only [sp_bW, sp_K, sp_P, sp_U, sp_up] at this ⊢
      refine ⟨?_, ?_, ?_, ?_, ?_⟩ <;> split <;> omega
    · cases h
  · cases h
abbrev bl_Pi (p : Nat) (σ : ax_S) (b : sp_B) (o : Option sp_B) : Option Value → ax_S → Prop := fun r τ => ax_fr p 8 σ τ ∧ ((∃ b', o = some b' ∧ r = some (.int (nI 1)) ∧ ∃ fr, bl_Aw τ.1 p b' fr) ∨ (o = none ∧ r = some (.int (nI 0)) ∧ ∃ fr, bl_Aw τ.1 p b fr))
theorem c_accepts {σ : ax_S} {p ch n1 n2 n3 : Nat} {v1 v2 v3 : Int32} {b : sp_B} {fr : Nat → Int32} (hB : bl_Aw σ.1 p b fr) (hb : sp_ok b) (hc : ch < 128) (e1 : 1 ≤ sp_want ch → v1 = nI n1 ∧ n1 ≤ 99) (e2 : 2 ≤ sp_want ch → v2 = nI n2 ∧ n2 ≤ 99) (e3 : 3 ≤ sp_want ch → v3 = nI n3 ∧ n3 ≤ 99) : ax_N mX0_accepts 3 0 0 [.ref p, .int (nI ch), .int v1, .int v2, .int v3] σ (bl_Pi p σ b (sp_item b ch n1 n2 n3)) := by
  have hB0 := hB
  obtain ⟨fl, fn, fb, fk, fp, fu, B_o, -⟩ := hB
  have h6 := hb.2.1
  have h4 := hb.2.2.1
  refine ax_N.of (ls := [some (.ref p), some (.int (nI ch)), some (.int v1), some (.int v2), some (.int v3)]) (by decide +kernel) rfl (Nat.le_of_ble_eq_true rfl) ?_
  refine ax_iload_n (pc' := 1) rfl dX0_accepts_0 rfl ?_
  by_cases c1 : ch = 103
  · subst c1
    obtain ⟨rfl, hn1⟩ := e1 (by decide)
    refine ax_look (off := 43) (tgt := 44) dX0_accepts_1 (by decide) (by decide) (by decide) ?_
    refine ax_aload_n (pc' := 45) rfl dX0_accepts_44 rfl ?_
    refine ax_iload_n (pc' := 46) rfl dX0_accepts_45 rfl ?_
    by_cases hx : 1 ≤ n1 ∧ n1 ≤ 99
    · refine ax_callVG (pc' := 49) lv_X0_49 (c_acceptsGirthT hB0 hx.1 hx.2) B_o rfl rfl (Nat.le_of_ble_eq_true rfl) (Nat.le_of_ble_eq_true rfl) dX0_accepts_46 rfl (fun r σ' hr => ?_)
      obtain ⟨rfl, h2, h3⟩ := hr
      exact ax_zret dX0_accepts_49 rfl (by decide) (Nat.le_of_ble_eq_true rfl) (Nat.le_of_ble_eq_true rfl) (⟨h3, Or.inl ⟨_, by simp [sp_item, hx], rfl, h2⟩⟩)
    · refine ax_callVR (pc' := 49) lv_X0_49 (c_acceptsGirthF hn1 (by omega)) B_o rfl rfl (Nat.le_of_ble_eq_true rfl) (Nat.le_of_ble_eq_true rfl) dX0_accepts_46 rfl ?_
      exact ax_zret dX0_accepts_49 rfl (by decide) (Nat.le_of_ble_eq_true rfl) (Nat.le_of_ble_eq_true rfl) (⟨ax_fr.rf, Or.inr ⟨by simp [sp_item, hx], rfl, _, hB0⟩⟩)
  by_cases c2 : ch = 116
  · subst c2
    obtain ⟨rfl, hn1⟩ := e1 (by decide)
    obtain ⟨rfl, hn2⟩ := e2 (by decide)
    refine ax_look (off := 49) (tgt := 50) dX0_accepts_1 (by decide) (by decide) (by decide) ?_
    refine ax_aload_n (pc' := 51) rfl dX0_accepts_50 rfl ?_
    refine ax_iload_n (pc' := 52) rfl dX0_accepts_51 rfl ?_
    refine ax_iload_n (pc' := 53) rfl dX0_accepts_52 rfl ?_
    by_cases hx : b.2.1 < 6 ∧ n1 ≤ 80 ∧ n2 ≤ 8
    · refine ax_callVG (pc' := 56) lv_X0_53 (c_acceptsTownT hB0 hx.1 hx.2.1 hx.2.2) B_o rfl rfl (Nat.le_of_ble_eq_true rfl) (Nat.le_of_ble_eq_true rfl) dX0_accepts_53 rfl (fun r σ' hr => ?_)
      obtain ⟨rfl, h2, h3⟩ := hr
      exact ax_zret dX0_accepts_56 rfl (by decide) (Nat.le_of_ble_eq_true rfl) (Nat.le_of_ble_eq_true rfl) (⟨h3, Or.inl ⟨_, by simp [sp_item, hx], rfl, h2⟩⟩)
    · refine ax_callVR (pc' := 56) lv_X0_53 (c_acceptsTownF hB0 h6 hn1 hn2 hx) B_o rfl rfl (Nat.le_of_ble_eq_true rfl) (Nat.le_of_ble_eq_true rfl) dX0_accepts_53 rfl ?_
      exact ax_zret dX0_accepts_56 rfl (by decide) (Nat.le_of_ble_eq_true rfl) (Nat.le_of_ble_eq_true rfl) (⟨ax_fr.rf, Or.inr ⟨by simp [sp_item, hx], rfl, _, hB0⟩⟩)
  by_cases c3 : ch = 114
  · subst c3
    obtain ⟨rfl, hn1⟩ := e1 (by decide)
    obtain ⟨rfl, hn2⟩ := e2 (by decide)
    obtain ⟨rfl, hn3⟩ := e3 (by decide)
    refine ax_look (off := 56) (tgt := 57) dX0_accepts_1 (by decide) (by decide) (by decide) ?_
    refine ax_aload_n (pc' := 58) rfl dX0_accepts_57 rfl ?_
    refine ax_iload_n (pc' := 59) rfl dX0_accepts_58 rfl ?_
    refine ax_iload_n (pc' := 60) rfl dX0_accepts_59 rfl ?_
    refine ax_iload (pc' := 62) rfl dX0_accepts_60 rfl ?_
    by_cases hx : n1 < b.2.1 ∧ n2 < b.2.1 ∧ n1 ≠ n2 ∧ n3 ≤ 50
    · refine ax_callVG (pc' := 65) lv_X0_57 (c_acceptsRoadT hB0 h6 hx.1 hx.2.1 hx.2.2.1 hx.2.2.2) B_o rfl rfl (Nat.le_of_ble_eq_true rfl) (Nat.le_of_ble_eq_true rfl) dX0_accepts_62 rfl (fun r σ' hr => ?_)
      obtain ⟨rfl, h2, h3⟩ := hr
      exact ax_zret dX0_accepts_65 rfl (by decide) (Nat.le_of_ble_eq_true rfl) (Nat.le_of_ble_eq_true rfl) (⟨h3, Or.inl ⟨_, by simp [sp_item, hx], rfl, h2⟩⟩)
    · refine ax_callVR (pc' := 65) lv_X0_57 (c_acceptsRoadF hB0 h6 hn1 hn2 hn3 hx) B_o rfl rfl (Nat.le_of_ble_eq_true rfl) (Nat.le_of_ble_eq_true rfl) dX0_accepts_62 rfl ?_
      exact ax_zret dX0_accepts_65 rfl (by decide) (Nat.le_of_ble_eq_true rfl) (Nat.le_of_ble_eq_true rfl) (⟨ax_fr.rf, Or.inr ⟨by simp [sp_item, hx], rfl, _, hB0⟩⟩)
  by_cases c4 : ch = 119
  · subst c4
    obtain ⟨rfl, hn1⟩ := e1 (by decide)
    obtain ⟨rfl, hn2⟩ := e2 (by decide)
    obtain ⟨rfl, hn3⟩ := e3 (by decide)
    refine ax_look (off := 65) (tgt := 66) dX0_accepts_1 (by decide) (by decide) (by decide) ?_
    refine ax_aload_n (pc' := 67) rfl dX0_accepts_66 rfl ?_
    refine ax_iload_n (pc' := 68) rfl dX0_accepts_67 rfl ?_
    refine ax_iload_n (pc' := 69) rfl dX0_accepts_68 rfl ?_
    refine ax_iload (pc' := 71) rfl dX0_accepts_69 rfl ?_
    by_cases hx : b.2.2.1 < 4 ∧ n1 ≤ 3 ∧ (1 ≤ n2 ∧ n2 ≤ 40) ∧ 1 ≤ n3 ∧ n3 ≤ 9
    · refine ax_callVG (pc' := 74) lv_X0_61 (c_acceptsWalkerT hB0 hx.1 hx.2.1 hx.2.2.1.1 hx.2.2.1.2 hx.2.2.2.1 hx.2.2.2.2) B_o rfl rfl (Nat.le_of_ble_eq_true rfl) (Nat.le_of_ble_eq_true rfl) dX0_accepts_71 rfl (fun r σ' hr => ?_)
      obtain ⟨rfl, h2, h3⟩ := hr
      exact ax_zret dX0_accepts_74 rfl (by decide) (Nat.le_of_ble_eq_true rfl) (Nat.le_of_ble_eq_true rfl) (⟨h3, Or.inl ⟨_, by simp [sp_item, hx], rfl, h2⟩⟩)
    · refine ax_callVR (pc' := 74) lv_X0_61 (c_acceptsWalkerF hB0 h4 hn1 hn2 hn3 hx) B_o rfl rfl (Nat.le_of_ble_eq_true rfl) (Nat.le_of_ble_eq_true rfl) dX0_accepts_71 rfl ?_
      exact ax_zret dX0_accepts_74 rfl (by decide) (Nat.le_of_ble_eq_true rfl) (Nat.le_of_ble_eq_true rfl) (⟨ax_fr.rf, Or.inr ⟨by simp [sp_item, hx], rfl, _, hB0⟩⟩)
  · have ne : ∀ k : Nat, k < 128 → ch ≠ k → ¬ nI ch = nI k := fun k hk h e => h ((nI_eq (by omega) (by omega)).mp e)
    refine ax_look (off := 74) (tgt := 75) dX0_accepts_1 (by decide) ?_ (by decide) ?_
    · show Op.lookupswitch.offset [(103, 43), (114, 56), (116, 49), (119, 65)] 74 (nI ch).toInt = 74
      rw [lv_osw (ne 103 (by decide) c1) (by decide), lv_osw (ne 114 (by decide) c3) (by decide), lv_osw (ne 116 (by decide) c2) (by decide), lv_osw (ne 119 (by decide) c4) (by decide)]
      rfl
    refine ax_iconst (pc' := 76) (v := (nI 0)) kc_0 dX0_accepts_75 rfl ?_
    exact ax_zret dX0_accepts_76 rfl (by decide) (Nat.le_of_ble_eq_true rfl) (Nat.le_of_ble_eq_true rfl) (⟨ax_fr.rf, Or.inr ⟨by simp [sp_item, c1, c2, c3, c4], rfl, _, hB0⟩⟩)
/-- the roads of the towns before i, and of town i to those before j, are measured -/
def bl_ms (b : sp_B) (i j : Nat) (fr : Nat → Int32) : Prop := ∀ a c, a < b.2.1 → c < b.2.1 → (a < i ∨ (a = i ∧ c < j)) → fr (6 * a + c) = nI (sp_road b a c)
theorem c_measureRoads {σ : ax_S} {p : Nat} {b : sp_B} {fr : Nat → Int32} (hB : bl_Aw σ.1 p b fr) (hb : sp_ok b) : ax_N mX0_measureRoads 3 0 0 [.ref p] σ (fun r τ => r = none ∧ bl_At τ.1 p b ∧ ax_fr p 8 σ τ) := by
  have h6 := hb.2.1
  refine ax_N.of (ls := [some (.ref p), none, none, none]) (by decide +kernel) rfl (Nat.le_of_ble_eq_true rfl) ?_
  refine ax_iconst (pc' := 1) (v := (nI 0)) kc_0 dX0_measureRoads_0 rfl ?_
  refine ax_istore_n (pc' := 2) rfl (Nat.le_of_ble_eq_true rfl) dX0_measureRoads_1 rfl ?_
  have K : ∀ m i, i + m = b.2.1 → ∀ (τ : ax_S) (fr : Nat → Int32) (z1 z2 : Option Value), bl_Aw τ.1 p b fr → ax_fr p 8 σ τ → bl_ms b i 0 fr → ax_J (mX0_measureRoads, 3, 0, 0) 0 0 2 [some (.ref p), some (.int (nI i)), z1, z2] [] τ (fun r τ => r = none ∧ bl_At τ.1 p b ∧ ax_fr p 8 σ τ) := by
    intro m
    induction m with
    | zero =>
      intro i hi τ fr z1 z2 hB hF hM
      have hi : i = b.2.1 := hi
      have hB0 := hB
      obtain ⟨fl, fn, fb, fk, fp, fu, B_o, -⟩ := hB
      refine ax_iload_n (pc' := 3) rfl dX0_measureRoads_2 rfl ?_
      refine ax_aload_n (pc' := 4) rfl dX0_measureRoads_3 rfl ?_
      refine ax_getf (pc' := 7) fl_X0_37 B_o rfl dX0_measureRoads_4 rfl ?_
      refine ax_icmp_ge (pc' := 10) (tgt := 72) dX0_measureRoads_7 (by decide) rfl (fun _ => ?_) (fun hz => absurd (nI_le (by omega) (by omega)) hz)
      exact ax_vret dX0_measureRoads_72 rfl (Nat.le_of_ble_eq_true rfl) (Nat.le_of_ble_eq_true rfl) (⟨rfl, ⟨fr, hB0, fun a c ha hc => hM a c ha hc (Or.inl (by omega))⟩, hF⟩)
    | succ m ih =>
      intro i hi τ fr z1 z2 hB hF hM
      have B_o : τ.1 p = _ := hB.choose_spec.choose_spec.choose_spec.choose_spec.choose_spec.choose_spec.1
      refine ax_iload_n (pc' := 3) rfl dX0_measureRoads_2 rfl ?_
      refine ax_aload_n (pc' := 4) rfl dX0_measureRoads_3 rfl ?_
      refine ax_getf (pc' := 7) fl_X0_37 B_o rfl dX0_measureRoads_4 rfl ?_
      refine ax_icmp_ge (pc' := 10) (tgt := 72) dX0_measureRoads_7 (by decide) rfl (fun hz => absurd hz (nI_ge (by omega) (by omega))) (fun _ => ?_)
      refine ax_iconst (pc' := 11) (v := (nI 0)) kc_0 dX0_measureRoads_10 rfl ?_
      have K2 : ∀ m2 j, j + m2 = b.2.1 → ∀ (τ : ax_S) (fr : Nat → Int32) (z1 z2 : Option Value), bl_Aw τ.1 p b fr → ax_fr p 8 σ τ → bl_ms b i j fr → ax_J (mX0_measureRoads, 3, 0, 0) 0 0 12 [some (.ref p), some (.int (nI i)), some (.int (nI j)), z2] [] τ (fun r τ => r = none ∧ bl_At τ.1 p b ∧ ax_fr p 8 σ τ) := by
        intro m2
        induction m2 with
        | zero =>
          intro j hj τ fr z1 z2 hB hF hM
          have B_o : τ.1 p = _ := hB.choose_spec.choose_spec.choose_spec.choose_spec.choose_spec.choose_spec.1
          refine ax_iload_n (pc' := 13) rfl dX0_measureRoads_12 rfl ?_
          refine ax_aload_n (pc' := 14) rfl dX0_measureRoads_13 rfl ?_
          refine ax_getf (pc' := 17) fl_X0_37 B_o rfl dX0_measureRoads_14 rfl ?_
          refine ax_icmp_ge (pc' := 20) (tgt := 66) dX0_measureRoads_17 (by decide) rfl (fun _ => ?_) (fun hz => absurd (nI_le (by omega) (by omega)) hz)
          refine ax_iinc1 (pc' := 69) rfl rfl (Nat.le_of_ble_eq_true rfl) dX0_measureRoads_66 rfl ?_
          refine ax_goto (tgt := 2) dX0_measureRoads_69 (by decide) ?_
          exact ih (i + 1) (by omega) τ fr _ _ hB hF (fun a c ha hc h => hM a c ha hc (by omega))
        | succ m2 ih2 =>
          intro j hj τ fr z1 z2 hB hF hM
          have hB0 := hB
          obtain ⟨fl, fn, fb, fk, fp, fu, B_o, B_lies, B_leans, B_bends, B_roads, B_kinds, B_paces, B_units, r1, r2, r3⟩ := hB
          have hi6 : i < b.2.1 := by omega
          have hj6 : j < b.2.1 := by omega
          refine ax_iload_n (pc' := 13) rfl dX0_measureRoads_12 rfl ?_
          refine ax_aload_n (pc' := 14) rfl dX0_measureRoads_13 rfl ?_
          refine ax_getf (pc' := 17) fl_X0_37 B_o rfl dX0_measureRoads_14 rfl ?_
          refine ax_icmp_ge (pc' := 20) (tgt := 66) dX0_measureRoads_17 (by decide) rfl (fun hz => absurd hz (nI_ge hj6 (by omega))) (fun _ => ?_)
          refine ax_iload_n (pc' := 21) rfl dX0_measureRoads_20 rfl ?_
          refine ax_bipush (pc' := 23) (v := (nI 6)) kb_6 dX0_measureRoads_21 rfl ?_
          refine ax_imul (pc' := 24) dX0_measureRoads_23 rfl ?_
          refine ax_iload_n (pc' := 25) rfl dX0_measureRoads_24 rfl ?_
          refine ax_iadd (pc' := 26) dX0_measureRoads_25 rfl ?_
          refine ax_topi ax_ix ?_
          refine ax_istore_n (pc' := 27) rfl (Nat.le_of_ble_eq_true rfl) dX0_measureRoads_26 rfl ?_
          refine ax_aload_n (pc' := 28) rfl dX0_measureRoads_27 rfl ?_
          refine ax_getf (pc' := 31) fl_X0_21 B_o rfl dX0_measureRoads_28 rfl ?_
          refine ax_iload_n (pc' := 32) rfl dX0_measureRoads_31 rfl ?_
          refine ax_aload_n (pc' := 33) rfl dX0_measureRoads_32 rfl ?_
          refine ax_iload_n (pc' := 34) rfl dX0_measureRoads_33 rfl ?_
          refine ax_iload_n (pc' := 35) rfl dX0_measureRoads_34 rfl ?_
          refine ax_callVR (pc' := 38) lv_X0_74 (c_straight hB0 hb hi6 hj6) B_o rfl rfl (Nat.le_of_ble_eq_true rfl) (Nat.le_of_ble_eq_true rfl) dX0_measureRoads_35 rfl ?_
          have hs := sp_str_le hb i j
          have hR := hb.2.2.2.2.1 (6 * i + j)
          have hm : sp_str b i j * (100 + sp_R b (6 * i + j)) ≤ 880 * 150 := Nat.mul_le_mul hs (by omega)
          refine ax_i2l (pc' := 39) dX0_measureRoads_38 rfl ?_
          refine ax_topl (nI_l (by omega)) ?_
          refine ax_bipush (pc' := 41) (v := (nI 100)) kb_100 dX0_measureRoads_39 rfl ?_
          refine ax_aload_n (pc' := 42) rfl dX0_measureRoads_41 rfl ?_
          refine ax_getf (pc' := 45) fl_X0_18 B_o rfl dX0_measureRoads_42 rfl ?_
          refine ax_iload_n (pc' := 46) rfl dX0_measureRoads_45 rfl ?_
          refine ax_callSR (pc' := 49) ls_X0_78 (c_at B_bends (j := 6 * i + j) (by omega) (by decide)) rfl rfl (Nat.le_of_ble_eq_true rfl) (Nat.le_of_ble_eq_true rfl) dX0_measureRoads_46 rfl ?_
          refine ax_topi (r2 _ (by omega)) ?_
          refine ax_iadd (pc' := 50) dX0_measureRoads_49 rfl ?_
          refine ax_topi (nI_add _ _) ?_
          refine ax_i2l (pc' := 51) dX0_measureRoads_50 rfl ?_
          refine ax_topl (nI_l (by omega)) ?_
          refine ax_lmul (pc' := 52) dX0_measureRoads_51 rfl ?_
          refine ax_topl (lN_mul _ _) ?_
          refine ax_bipush (pc' := 54) (v := (nI 100)) kb_100 dX0_measureRoads_52 rfl ?_
          refine ax_callSR (pc' := 57) ls_X0_82 (c_cut (a := sp_str b i j * (100 + sp_R b (6 * i + j))) (d := 100) (by omega) (by decide) (by decide)) rfl rfl (Nat.le_of_ble_eq_true rfl) (Nat.le_of_ble_eq_true rfl) dX0_measureRoads_54 rfl ?_
          refine ax_callSU (pc' := 60) ls_X0_67 (c_put B_roads (j := 6 * i + j) (by omega) (by decide)) rfl rfl (Nat.le_of_ble_eq_true rfl) (Nat.le_of_ble_eq_true rfl) dX0_measureRoads_57 rfl (fun s1 h1 => ?_)
          have B_roads := ax_kS h1
          have B_o := ax_kN h1 B_o (by omega)
          have B_lies := ax_kN h1 B_lies (by omega)
          have B_leans := ax_kN h1 B_leans (by omega)
          have B_bends := ax_kN h1 B_bends (by omega)
          have B_kinds := ax_kN h1 B_kinds (by omega)
          have B_paces := ax_kN h1 B_paces (by omega)
          have B_units := ax_kN h1 B_units (by omega)
          refine ax_iinc1 (pc' := 63) rfl rfl (Nat.le_of_ble_eq_true rfl) dX0_measureRoads_60 rfl ?_
          refine ax_goto (tgt := 12) dX0_measureRoads_63 (by decide) ?_
          refine ih2 (j + 1) (by omega) s1 _ none _ ⟨fl, fn, fb, fk, fp, fu, B_o, B_lies, B_leans, B_bends, B_roads, B_kinds, B_paces, B_units, r1, r2, r3⟩ (hF.up h1 (by omega) (by omega)) (fun a c ha hc h => ?_)
          by_cases e : 6 * a + c = 6 * i + j
          · have e1 : a = i := by omega
            have e2 : c = j := by omega
            subst e1; subst e2
            simp only [upd, if_true]
            rfl
          · simp only [upd, e, if_false]
            exact hM a c ha hc (by omega)
      refine ax_istore_n (pc' := 12) rfl (Nat.le_of_ble_eq_true rfl) dX0_measureRoads_11 rfl ?_
      exact K2 b.2.1 0 (Nat.zero_add _) τ fr none _ hB hF (fun a c ha hc h => hM a c ha hc h)
  exact K b.2.1 0 (Nat.zero_add _) σ fr _ _ hB ax_fr.rf (fun a c ha hc h => by omega)
