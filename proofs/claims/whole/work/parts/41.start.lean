/-! ===== the law's first steps: two new objects, then the loop ===== -/
section WS
theorem st_d7 : ∀ j, j < 12 → defaultValue (tyX7 j) = vp_V [.null, .null, .null, .null, .null, .null, .null, .null, .null, .null, .null, .int 0] j := by decide
theorem st_d8 : ∀ j, j < 31 → defaultValue (tyX8 j) = vp_V [.int (nI 0), .int (nI 0), .null, .null, .null, .int (nI 0), .null, .null, .null, .int (nI 0), .int (nI 0), .null, .null, .null, .int (nI 0), .null, .null, .null, .null, .int (nI 0), .int (nI 0), .int (nI 0), .null, .int (nI 0), .int (nI 0), .int (nI 0), .int (nI 0), .null, .null, .null, .null] j := by decide
variable {p : Program} {l : Launch} {e : Env} {s : State} {m : MethodId} {below : List Frame} {meth : Method} {c : Code} {b L : Nat} {xs : Nat → Int32} {x : ax_X}
theorem lj_start (C : lj_C p s m meth c b L xs x) (hL : L ≤ 320) : lj_J p l e s m below meth c b x 0 0 0 [some (.retAddr 3), none, none, none] [] (fun _ => none, 0) := by
  refine lj_new (pc' := 3) (ci := 7) (z := 0) (fs := [.null, .null, .null, .null, .null, .null, .null, .null, .null, .null, .null, .int 0]) C rfl rfl tyX7_ok cl_L_7 ci_X7 mi_X7 (fun x => st_d7) (Nat.le_of_ble_eq_true rfl) (Nat.le_of_ble_eq_true rfl) dL_law_0 rfl (fun t1 e1 => ?_)
  refine lj_dup (pc' := 4) C rfl dL_law_3 rfl ?_
  refine lj_callI (pc' := 7) (rest := [.ref 0]) C li_L_9 (n_Class (ax_kS e1) (ax_k2 e1)) rfl rfl (Nat.le_refl _) (Nat.le_of_ble_eq_true rfl) (Nat.le_of_ble_eq_true rfl) (Nat.le_of_ble_eq_true rfl) dL_law_4 rfl (fun r t2 h2 => ?_)
  obtain ⟨rfl, hX, hz2, -⟩ := h2
  refine lj_astore_n (pc' := 8) (ls' := [some (.retAddr 3), some (.ref 0), none, none]) C rfl (Nat.le_refl _) dL_law_7 rfl ?_
  refine lj_new (pc' := 11) (ci := 8) (z := 56) (fs := [.int (nI 0), .int (nI 0), .null, .null, .null, .int (nI 0), .null, .null, .null, .int (nI 0), .int (nI 0), .null, .null, .null, .int (nI 0), .null, .null, .null, .null, .int (nI 0), .int (nI 0), .int (nI 0), .null, .int (nI 0), .int (nI 0), .int (nI 0), .int (nI 0), .null, .null, .null, .null]) C hz2 rfl tyX8_ok cl_L_10 ci_X8 mi_X8 (fun x => st_d8) (Nat.le_of_ble_eq_true rfl) (Nat.le_of_ble_eq_true rfl) dL_law_8 rfl (fun t3 e3 => ?_)
  refine lj_dup (pc' := 12) C rfl dL_law_11 rfl ?_
  refine lj_callI (pc' := 15) (rest := [.ref 56]) C li_L_12 (n_Model (ax_kS e3) (ax_k2 e3)) rfl rfl (Nat.le_of_ble_eq_true rfl) (Nat.le_of_ble_eq_true rfl) (Nat.le_of_ble_eq_true rfl) (Nat.le_of_ble_eq_true rfl) dL_law_12 rfl (fun r t4 h4 => ?_)
  obtain ⟨rfl, hM, hz4, hk4⟩ := h4
  refine lj_astore_n (pc' := 16) (ls' := [some (.retAddr 3), some (.ref 0), some (.ref 56), none]) C rfl (Nat.le_refl _) dL_law_15 rfl ?_
  refine lj_iconst (pc' := 17) (v := nI 0) C kc_0 dL_law_16 rfl ?_
  refine lj_istore_n (pc' := 18) (ls' := [some (.retAddr 3), some (.ref 0), some (.ref 56), some (.int (nI 0))]) C rfl (Nat.le_refl _) dL_law_17 rfl ?_
  exact lj_loop C hL 320 0 (sp_S0 tx_1) t4 (by omega) (by omega) ⟨xs_At.on hX (fun q hq => (hk4 q hq).trans (ax_kN e3 rfl (by omega))), hM tx_1, sp_S0_ok, hz4⟩
end WS
/-- from the entry, for every script of at most 320 ints, the law comes to its end with true -/
theorem whole_start {p : Program} {e : Env} {s : State} {m : MethodId} {below : List Frame} {meth : Method} {c : Code} (l : Launch) {b L : Nat} {xs : Nat → Int32} (hL : L ≤ 320) (C0 : lw_At p s m meth c b L xs) : W p l e room_1 s m #[Value.ref b] below meth c s.heap [] 0 0 (lw_Z below #[Value.ref b] s) (entryFrame m ([Value.ref b] : List Value).toArray 4) := by
  obtain ⟨hx, hb, hr, hml, hown, hts, hX, hbl, hlocks, hgv⟩ := C0
  obtain ⟨x, hx1, hx3, hK⟩ := st_K b hts hgv
  have C : lj_C p s m meth c b L xs x := ⟨hx, hb, hr, hml, hown, hts, hX, by rw [hx1]; exact hbl, hlocks, hK, hx1, hx3⟩
  rw [lg_entry_eq]
  have hen := lv_entry ([Value.ref b]) (n := 4) (Nat.le_of_ble_eq_true rfl)
  refine lj_start C hL s.heap [] _ ⟨by rw [hx1]; rfl, fun k q h => by simp [ax_W] at h, fun k => by simp, va_S.rf, by rw [hx1]; exact Nat.le_refl _⟩ ⟨hen.1, hen.2.1, fun i v hi => ?_⟩
  match i, hi with
  | 0, hi =>
    cases hi
    show _ = some (Slot.val (.ref (x.2.1 3)))
    rw [hx3]
    exact hen.2.2 (0, .ref b) (by simp [lv_args])
  | 1, hi => cases hi
  | 2, hi => cases hi
  | 3, hi => cases hi
  | i + 4, hi => simp at hi
