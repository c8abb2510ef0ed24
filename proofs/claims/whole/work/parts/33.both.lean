/-! ===== class and model beside each other ===== -/
theorem xs_At.on {σ τ : ax_S} {S : sp_S} (hx : xs_At σ.1 S) (h : ∀ q, q < 56 → τ.1 q = σ.1 q) : xs_At τ.1 S := by
  obtain ⟨pb, pq, ts, hpp, hX, hPa, hRd, hK, hY, hK1, hK2, hT, hto, hSg, hG, hQ⟩ := hx
  exact ⟨pb, pq, ts, hpp, hX.on (h 0 (by omega)) (fun q _ _ => h q (by omega)), hPa.on (fun q _ _ => h q (by omega)), hRd.on (fun q _ _ => h q (by omega)), hK.on (fun q _ _ => h q (by omega)), hY.on (fun q _ _ => h q (by omega)), hK1.on (fun q _ _ => h q (by omega)), hK2.on (fun q _ _ => h q (by omega)), hT.on (fun q _ _ => h q (by omega)), hto, hSg.on (fun q _ _ => h q (by omega)), hG.on (fun q _ _ => h q (by omega)), hQ.on (fun q _ _ => h q (by omega))⟩
theorem ms_At.on {σ τ : ax_S} {S : sp_S} (hx : ms_At σ.1 S) (h : ∀ q, 56 ≤ q → q < 75 → τ.1 q = σ.1 q) : ms_At τ.1 S := by
  obtain ⟨ng, nt, nw, ap, bg, wr, f, M_o, hMb, M_slot, hSl, hNew, hTx, hSg⟩ := hx
  exact ⟨ng, nt, nw, ap, bg, wr, f, (h 56 (by omega) (by omega)).trans M_o, hMb.on (fun q _ _ => h q (by omega) (by omega)), (h 69 (by omega) (by omega)).trans M_slot, hSl, hNew.on (fun q _ _ => h q (by omega) (by omega)), hTx.on (h 70 (by omega) (by omega)), hSg.on (fun q _ _ => h q (by omega) (by omega))⟩
/-- both hold the state S, and it is as it must be -/
def bo_At (σ : ax_S) (S : sp_S) : Prop := xs_At σ.1 S ∧ ms_At σ.1 S ∧ sp_Ok S ∧ σ.2 = 75
theorem bo_At.step {σ ρ τ : ax_S} {S : sp_S} {A : sp_A} {r u : Option Value} (h : bo_At σ S) (hx : xs_Po σ A r ρ) (hm : ms_At ρ.1 S → ms_Po ρ A u τ) (hA : sp_Ok A.2) : bo_At τ A.2 := by
  obtain ⟨-, h2, h3⟩ := hx
  obtain ⟨-, g2, g3⟩ := hm (h.2.1.on (fun q a b => h3.2 q (by omega)))
  exact ⟨h2.on (fun q hq => g3.2 q (by omega)), g2, hA, g3.1.trans (h3.1.trans h.2.2.2)⟩
theorem sp_B1_ok : sp_ok sp_B1 := by
  have h := sp_pa_ok 200 0 sp_b0 sp_B1 sp_b0_ok pa_1
  exact h
theorem sp_S0_ok : sp_Ok (sp_S0 tx_1) := ⟨⟨by decide, tx_1_le⟩, sp_B1_ok, ⟨by decide, by decide⟩, bk_ok_nil, by decide, fun u hu => (by cases hu), by decide, fun u hu => (by cases hu), sg_ok_nil⟩
