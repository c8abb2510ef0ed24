section AXL
variable {F : ax_F} {k w pc pc' : Nat} {ls : List (Option Value)} {st : List Value} {σ : ax_S} {post : Option Value → ax_S → Prop}
/-- a call of a small static method of the own class, over a deep stack -/
theorem ax_callSL {M : ax_M} {d n idx : Nat} {av rest : List Value} {v : Value} (hl : ax_LS F.1.1.cls idx M n) (hlk : Cond.methodLink F.1.1.cls idx M.1 ∈ ax_Big) (hm4 : M.2.2.1 ≤ 4) (hN : ax_R M d av σ v) (hst : st = ax_push av rest) (hlen : av.length = n) (hdd : d + 1 ≤ F.2.1) (hr : (rest.map Value.category).sum ≤ 20) (hd : decode F.1.2.1 pc = .ok (.invokestatic idx, 3)) (hp : pc + 3 = pc') (hk : k ≤ F.2.2.1) (hw : w ≤ F.2.2.2) (kk : ax_J F k w pc' ls (v :: rest) σ post) : ax_J F k w pc ls st σ post := by
  subst hp
  subst hst
  obtain ⟨h1, h2, h3, -, h5, h6⟩ := hl
  intro p l e s m args below meth c x H locs lsA C Hp L
  have hts := C.2.2.2.2.2.2.2.1
  have hstk : (ax_push av rest).map (ax_cv x) = (av.map (ax_cv x)).reverse ++ rest.map (ax_cv x) := by rw [ax_push_eq, List.map_append, List.map_reverse]
  have hpre : PreS s H (ax_Pc x av σ) (av.map (ax_cv x)) := ⟨ax_blind, fun U hU hW => ax_pre Hp C.2.2.2.2.2.2.2.2 hU hW⟩
  have hK : Back l (ax_Rm F.2.1 F.2.2.1 F.2.2.2) p e below s args M.1 3 20 (PreOf (ax_Rm F.2.1 F.2.2.1 F.2.2.2) 0 0 (ax_Pc x av σ)) (PostOf (ax_Q x (fun r σ' => r = some v ∧ σ' = σ)) 0 0 (fun q => x.1 ≤ q)) :=
    back_of (bytes := M.2.1) (maxL := M.2.2.1) (ret := M.2.2.2) (hN l x) ax_blind rfl rfl hdd (by show 20 + (M.2.2.1 + 11) + 35 * d ≤ 35 * F.2.1; omega) (pay_in hts (ax_Ws_good h1)) List.mem_cons_self (fun a' U hW => word_at hW (Or.inl (by first | rfl | simp [Cond.onTables, Cond.keeps, Cond.steady])) (hts _ h3))
  refine ax_after (mc := 0) (ms := 0) (rest := rest) (a := (av.map (ax_cv x)).toArray) (post' := fun r σ' => r = some v ∧ σ' = σ) ?_ C Hp L (fun r σ' h => by obtain ⟨rfl, rfl⟩ := h; exact kk)
  intro T hT X
  have hroom : 2 * (F0 m pc lsA ((ax_push av rest).map (ax_cv x))).monitorRoom + ((rest.map (ax_cv x)).map fun v => v.category).sum ≤ 20 := by
    have e0 : ((rest.map (ax_cv x)).map fun v => v.category).sum = (rest.map Value.category).sum := by
      rw [List.map_map]; congr 1; exact List.map_congr_left (fun v _ => ax_cv_cat v)
    have e1 : 2 * (F0 m pc lsA ((ax_push av rest).map (ax_cv x))).monitorRoom + ((([] : List Value)).map fun v => v.category).sum ≤ 8 := lv_room (m := m) (pc := pc) (ls := lsA) (rest := (ax_push av rest).map (ax_cv x)) (st := []) (by decide)
    have e2 : (F0 m pc lsA ((ax_push av rest).map (ax_cv x))).monitorRoom = 0 := rfl
    rw [e0, e2]
    omega
  obtain ⟨v', vm₁, ⟨U', l2, c2, s2⟩, hW₁, X', ⟨g', mk, t, L', e1, e2, hq, q1, hL, q2, q3⟩, st⟩ := callS X C.1 (bytes := M.2.1) (maxL := M.2.2.1) (ret := M.2.2.2) C.2.2.2.2.2.1 (hts _ hlk) (hts _ h2) (hts _ h3) (hts _ h1) ⟨h6.1, h6.2.1⟩ hK (g := F0 m pc lsA ((ax_push av rest).map (ax_cv x))) rfl (L.1.trans C.2.2.2.2.1.symm) (argsL := av.map (ax_cv x)) (rest := rest.map (ax_cv x)) (fun sig h => by
      have h9 := h6.2.2
      rw [h] at h9
      rw [List.length_map, hlen]
      exact (Option.some.inj h9).symm) hstk hroom (by rw [C.2.1]; exact hd)
    (fun vm₁ hW₁ => ⟨hk, hw, hpre.2 (T.setVm vm₁) hT hW₁⟩)
  dsimp only [Pt.U, Pt.locs, Pt.cells, Pt.slots] at X' e1 e2 q1 q2 q3 st
  subst q1; subst q2; subst q3
  exact ⟨v', (T.setVm vm₁).calling g' mk (av.map (ax_cv x)).toArray, t, U', L', hT, X', hL, e1, e2, hq, st⟩
end AXL
set_option maxRecDepth 20000 in
theorem lk_X7_120 : Cond.methodLink RX7 120 mX7_at.1 ∈ ax_Big := ax_bigI 484 (by decide +kernel) rfl
