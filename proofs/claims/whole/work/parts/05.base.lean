section AXD
variable {F : ax_F} {k w pc pc' : Nat} {ls ls' : List (Option Value)} {st : List Value} {σ : ax_S} {post : Option Value → ax_S → Prop}
theorem ax_iinc1 {i j : Nat} (hl : ls[i]? = some (some (.int (nI j)))) (hs : ax_st1 ls i (.int (nI (j + 1))) some = some ls') (hm : ls.length ≤ F.1.2.2.1) (hd : decode F.1.2.1 pc = .ok (.iinc i 1, 3)) (hp : pc + 3 = pc') (kk : ax_J F k w pc' ls' st σ post) : ax_J F k w pc ls st σ post :=
  ax_iinc hl (by rw [show Int32.ofInt 1 = 1 by decide]; exact nI_1 j) hs hm hd hp kk
theorem ax_iincM {i j : Nat} (hl : ls[i]? = some (some (.int (nI (j + 1))))) (hs : ax_st1 ls i (.int (nI j)) some = some ls') (hm : ls.length ≤ F.1.2.2.1) (hd : decode F.1.2.1 pc = .ok (.iinc i (-1), 3)) (hp : pc + 3 = pc') (kk : ax_J F k w pc' ls' st σ post) : ax_J F k w pc ls st σ post :=
  ax_iinc hl (by rw [show Int32.ofInt (-1) = -1 by decide]; exact pk_m1 j) hs hm hd hp kk
/-- a method without an answer, its heap behind it known -/
abbrev ax_V (M : ax_M) (d : Nat) (av : List Value) (σ τ : ax_S) : Prop := ax_N M d 0 0 av σ (fun r σ' => r = none ∧ σ' = τ)
theorem ax_callSR {M : ax_M} {d n idx : Nat} {av rest : List Value} {v : Value} (hl : ax_LS F.1.1.cls idx M n) (hN : ax_R M d av σ v) (hst : st = ax_push av rest) (hlen : av.length = n) (hdd : d + 1 ≤ F.2.1) (hr : (rest.map Value.category).sum ≤ 8) (hd : decode F.1.2.1 pc = .ok (.invokestatic idx, 3)) (hp : pc + 3 = pc') (kk : ax_J F k w pc' ls (v :: rest) σ post) (hk : k ≤ F.2.2.1 := by first | exact Nat.zero_le _ | assumption) (hw : w ≤ F.2.2.2 := by first | exact Nat.zero_le _ | assumption) : ax_J F k w pc ls st σ post :=
  ax_callS hl hN hst hlen hdd hr hk hw hd hp (fun r σ' h => by obtain ⟨rfl, rfl⟩ := h; exact kk)
theorem ax_callVR {M : ax_M} {d n idx ci a : Nat} {fs av rest : List Value} {v : Value} (hl : ax_LV F.1.1.cls idx M n ci) (hN : ax_R M d (.ref a :: av) σ v) (hc : σ.1 a = some (.inr (ci, fs))) (hst : st = ax_push (.ref a :: av) rest) (hlen : av.length = n) (hdd : d + 1 ≤ F.2.1) (hr : (rest.map Value.category).sum ≤ 8) (hd : decode F.1.2.1 pc = .ok (.invokevirtual idx, 3)) (hp : pc + 3 = pc') (kk : ax_J F k w pc' ls (v :: rest) σ post) (hk : k ≤ F.2.2.1 := by first | exact Nat.zero_le _ | assumption) (hw : w ≤ F.2.2.2 := by first | exact Nat.zero_le _ | assumption) : ax_J F k w pc ls st σ post :=
  ax_callV hl hN hc hst hlen hdd hr hk hw hd hp (fun r σ' h => by obtain ⟨rfl, rfl⟩ := h; exact kk)
theorem ax_callSW {M : ax_M} {d n idx : Nat} {av rest : List Value} {τ : ax_S} (hl : ax_LS F.1.1.cls idx M n) (hN : ax_V M d av σ τ) (hst : st = ax_push av rest) (hlen : av.length = n) (hdd : d + 1 ≤ F.2.1) (hr : (rest.map Value.category).sum ≤ 8) (hd : decode F.1.2.1 pc = .ok (.invokestatic idx, 3)) (hp : pc + 3 = pc') (kk : ax_J F k w pc' ls rest τ post) (hk : k ≤ F.2.2.1 := by first | exact Nat.zero_le _ | assumption) (hw : w ≤ F.2.2.2 := by first | exact Nat.zero_le _ | assumption) : ax_J F k w pc ls st σ post :=
  ax_callS hl hN hst hlen hdd hr hk hw hd hp (fun r σ' h => by obtain ⟨rfl, rfl⟩ := h; exact kk)
theorem ax_callVW {M : ax_M} {d n idx ci a : Nat} {fs av rest : List Value} {τ : ax_S} (hl : ax_LV F.1.1.cls idx M n ci) (hN : ax_V M d (.ref a :: av) σ τ) (hc : σ.1 a = some (.inr (ci, fs))) (hst : st = ax_push (.ref a :: av) rest) (hlen : av.length = n) (hdd : d + 1 ≤ F.2.1) (hr : (rest.map Value.category).sum ≤ 8) (hd : decode F.1.2.1 pc = .ok (.invokevirtual idx, 3)) (hp : pc + 3 = pc') (kk : ax_J F k w pc' ls rest τ post) (hk : k ≤ F.2.2.1 := by first | exact Nat.zero_le _ | assumption) (hw : w ≤ F.2.2.2 := by first | exact Nat.zero_le _ | assumption) : ax_J F k w pc ls st σ post :=
  ax_callV hl hN hc hst hlen hdd hr hk hw hd hp (fun r σ' h => by obtain ⟨rfl, rfl⟩ := h; exact kk)
theorem ax_callSG {M : ax_M} {d n idx : Nat} {av rest : List Value} {post' : Option Value → ax_S → Prop} (hl : ax_LS F.1.1.cls idx M n) (hN : ax_N M d 0 0 av σ post') (hst : st = ax_push av rest) (hlen : av.length = n) (hdd : d + 1 ≤ F.2.1) (hr : (rest.map Value.category).sum ≤ 8) (hd : decode F.1.2.1 pc = .ok (.invokestatic idx, 3)) (hp : pc + 3 = pc') (kk : ∀ r σ', post' r σ' → ax_J F k w pc' ls (r.toList ++ rest) σ' post) (hk : k ≤ F.2.2.1 := by first | exact Nat.zero_le _ | assumption) (hw : w ≤ F.2.2.2 := by first | exact Nat.zero_le _ | assumption) : ax_J F k w pc ls st σ post :=
  ax_callS hl hN hst hlen hdd hr hk hw hd hp kk
theorem ax_callVG {M : ax_M} {d n idx ci a : Nat} {fs av rest : List Value} {post' : Option Value → ax_S → Prop} (hl : ax_LV F.1.1.cls idx M n ci) (hN : ax_N M d 0 0 (.ref a :: av) σ post') (hc : σ.1 a = some (.inr (ci, fs))) (hst : st = ax_push (.ref a :: av) rest) (hlen : av.length = n) (hdd : d + 1 ≤ F.2.1) (hr : (rest.map Value.category).sum ≤ 8) (hd : decode F.1.2.1 pc = .ok (.invokevirtual idx, 3)) (hp : pc + 3 = pc') (kk : ∀ r σ', post' r σ' → ax_J F k w pc' ls (r.toList ++ rest) σ' post) (hk : k ≤ F.2.2.1 := by first | exact Nat.zero_le _ | assumption) (hw : w ≤ F.2.2.2 := by first | exact Nat.zero_le _ | assumption) : ax_J F k w pc ls st σ post :=
  ax_callV hl hN hc hst hlen hdd hr hk hw hd hp kk
end AXD
theorem kb_m4 : (Int8.ofInt (-4)).toInt32 = (-4) := by decide +kernel
theorem kb_m3 : (Int8.ofInt (-3)).toInt32 = (-3) := by decide +kernel
theorem kb_m2 : (Int8.ofInt (-2)).toInt32 = (-2) := by decide +kernel
theorem kb_6 : (Int8.ofInt 6).toInt32 = (nI 6) := by decide +kernel
theorem kb_7 : (Int8.ofInt 7).toInt32 = (nI 7) := by decide +kernel
theorem kb_8 : (Int8.ofInt 8).toInt32 = (nI 8) := by decide +kernel
theorem kb_9 : (Int8.ofInt 9).toInt32 = (nI 9) := by decide +kernel
theorem kb_10 : (Int8.ofInt 10).toInt32 = (nI 10) := by decide +kernel
theorem kb_15 : (Int8.ofInt 15).toInt32 = (nI 15) := by decide +kernel
theorem kb_16 : (Int8.ofInt 16).toInt32 = (nI 16) := by decide +kernel
theorem kb_20 : (Int8.ofInt 20).toInt32 = (nI 20) := by decide +kernel
theorem kb_24 : (Int8.ofInt 24).toInt32 = (nI 24) := by decide +kernel
theorem kb_25 : (Int8.ofInt 25).toInt32 = (nI 25) := by decide +kernel
theorem kb_30 : (Int8.ofInt 30).toInt32 = (nI 30) := by decide +kernel
theorem kb_31 : (Int8.ofInt 31).toInt32 = (nI 31) := by decide +kernel
theorem kb_32 : (Int8.ofInt 32).toInt32 = (nI 32) := by decide +kernel
theorem kb_36 : (Int8.ofInt 36).toInt32 = (nI 36) := by decide +kernel
theorem kb_37 : (Int8.ofInt 37).toInt32 = (nI 37) := by decide +kernel
theorem kb_38 : (Int8.ofInt 38).toInt32 = (nI 38) := by decide +kernel
theorem kb_40 : (Int8.ofInt 40).toInt32 = (nI 40) := by decide +kernel
theorem kb_44 : (Int8.ofInt 44).toInt32 = (nI 44) := by decide +kernel
theorem kb_48 : (Int8.ofInt 48).toInt32 = (nI 48) := by decide +kernel
theorem kb_50 : (Int8.ofInt 50).toInt32 = (nI 50) := by decide +kernel
theorem kb_59 : (Int8.ofInt 59).toInt32 = (nI 59) := by decide +kernel
theorem kb_60 : (Int8.ofInt 60).toInt32 = (nI 60) := by decide +kernel
theorem kb_63 : (Int8.ofInt 63).toInt32 = (nI 63) := by decide +kernel
theorem kb_64 : (Int8.ofInt 64).toInt32 = (nI 64) := by decide +kernel
theorem kb_80 : (Int8.ofInt 80).toInt32 = (nI 80) := by decide +kernel
theorem kb_90 : (Int8.ofInt 90).toInt32 = (nI 90) := by decide +kernel
theorem kb_99 : (Int8.ofInt 99).toInt32 = (nI 99) := by decide +kernel
theorem kb_100 : (Int8.ofInt 100).toInt32 = (nI 100) := by decide +kernel
theorem kb_103 : (Int8.ofInt 103).toInt32 = (nI 103) := by decide +kernel
theorem kb_114 : (Int8.ofInt 114).toInt32 = (nI 114) := by decide +kernel
theorem kb_116 : (Int8.ofInt 116).toInt32 = (nI 116) := by decide +kernel
theorem kb_119 : (Int8.ofInt 119).toInt32 = (nI 119) := by decide +kernel
theorem kb_126 : (Int8.ofInt 126).toInt32 = (nI 126) := by decide +kernel
theorem kc_m1 : Int32.ofInt (-1) = (-1) := by decide +kernel
theorem kc_0 : Int32.ofInt 0 = (nI 0) := by decide +kernel
theorem kc_1 : Int32.ofInt 1 = (nI 1) := by decide +kernel
theorem kc_2 : Int32.ofInt 2 = (nI 2) := by decide +kernel
theorem kc_3 : Int32.ofInt 3 = (nI 3) := by decide +kernel
theorem kc_4 : Int32.ofInt 4 = (nI 4) := by decide +kernel
theorem kc_5 : Int32.ofInt 5 = (nI 5) := by decide +kernel
theorem ks_200 : (Int16.ofInt 200).toInt32 = (nI 200) := by decide +kernel
theorem ks_255 : (Int16.ofInt 255).toInt32 = (nI 255) := by decide +kernel
theorem ks_304 : (Int16.ofInt 304).toInt32 = (nI 304) := by decide +kernel
theorem ks_360 : (Int16.ofInt 360).toInt32 = (nI 360) := by decide +kernel
theorem ks_418 : (Int16.ofInt 418).toInt32 = (nI 418) := by decide +kernel
theorem ks_454 : (Int16.ofInt 454).toInt32 = (nI 454) := by decide +kernel
theorem ks_455 : (Int16.ofInt 455).toInt32 = (nI 455) := by decide +kernel
theorem ks_456 : (Int16.ofInt 456).toInt32 = (nI 456) := by decide +kernel
theorem ks_511 : (Int16.ofInt 511).toInt32 = (nI 511) := by decide +kernel
theorem ks_1440 : (Int16.ofInt 1440).toInt32 = (nI 1440) := by decide +kernel
theorem ks_9999 : (Int16.ofInt 9999).toInt32 = (nI 9999) := by decide +kernel
theorem kz_1 : ¬ nI 1 = 0 := by decide +kernel
theorem kz_0 : nI 0 = 0 := by decide +kernel
section AXT
variable {F : ax_F} {k w pc : Nat} {ls : List (Option Value)} {st : List Value} {σ : ax_S} {post : Option Value → ax_S → Prop}
theorem ax_topi {v v' : Int32} (e : v = v') (kk : ax_J F k w pc ls (.int v' :: st) σ post) : ax_J F k w pc ls (.int v :: st) σ post := by rw [e]; exact kk
theorem ax_topl {v v' : Int64} (e : v = v') (kk : ax_J F k w pc ls (.long v' :: st) σ post) : ax_J F k w pc ls (.long v :: st) σ post := by rw [e]; exact kk
end AXT
/-! ===== GirthReports: numbers and rows ===== -/
theorem c_at {σ : ax_S} {a n j : Nat} {f : Nat → Int32} (A_ : σ.1 a = some (.inl (false, n, f))) (hj : j < n) (hn : n < 2 ^ 31) : ax_R mX7_at 0 [.ref a, .int (nI j)] σ (.int (f j)) := by
  refine ax_N.of (ls := [some (.ref a), some (.int (nI j))]) (by decide +kernel) rfl (Nat.le_of_ble_eq_true rfl) ?_
  refine ax_iload_n (pc' := 1) rfl dX7_at_0 rfl ?_
  refine ax_if_lt (pc' := 4) (tgt := 16) dX7_at_1 (by decide) rfl (fun hz => absurd hz (nI_pos (by omega))) (fun _ => ?_)
  refine ax_iload_n (pc' := 5) rfl dX7_at_4 rfl ?_
  refine ax_aload_n (pc' := 6) rfl dX7_at_5 rfl ?_
  refine ax_alen (pc' := 7) A_ dX7_at_6 rfl ?_
  refine ax_icmp_ge (pc' := 10) (tgt := 16) dX7_at_7 (by decide) rfl (fun hz => absurd hz (nI_ge hj hn)) (fun _ => ?_)
  refine ax_aload_n (pc' := 11) rfl dX7_at_10 rfl ?_
  refine ax_iload_n (pc' := 12) rfl dX7_at_11 rfl ?_
  refine ax_iald (pc' := 13) A_ rfl hj (by first | decide | assumption | omega) dX7_at_12 rfl ?_
  refine ax_goto (tgt := 17) dX7_at_13 (by decide) ?_
  exact ax_iret dX7_at_17 rfl (Nat.le_of_ble_eq_true rfl) (Nat.le_of_ble_eq_true rfl) (⟨rfl, rfl⟩)
theorem c_put {σ : ax_S} {a n j : Nat} {v : Int32} {f : Nat → Int32} (A_ : σ.1 a = some (.inl (false, n, f))) (hj : j < n) (hn : n < 2 ^ 31) : ax_V mX7_put 0 [.ref a, .int (nI j), .int v] σ (ax_up σ.1 a (.inl (false, n, upd f j v)), σ.2) := by
  refine ax_N.of (ls := [some (.ref a), some (.int (nI j)), some (.int v)]) (by decide +kernel) rfl (Nat.le_of_ble_eq_true rfl) ?_
  refine ax_iload_n (pc' := 1) rfl dX7_put_0 rfl ?_
  refine ax_if_lt (pc' := 4) (tgt := 14) dX7_put_1 (by decide) rfl (fun hz => absurd hz (nI_pos (by omega))) (fun _ => ?_)
  refine ax_iload_n (pc' := 5) rfl dX7_put_4 rfl ?_
  refine ax_aload_n (pc' := 6) rfl dX7_put_5 rfl ?_
  refine ax_alen (pc' := 7) A_ dX7_put_6 rfl ?_
  refine ax_icmp_ge (pc' := 10) (tgt := 14) dX7_put_7 (by decide) rfl (fun hz => absurd hz (nI_ge hj hn)) (fun _ => ?_)
  refine ax_aload_n (pc' := 11) rfl dX7_put_10 rfl ?_
  refine ax_iload_n (pc' := 12) rfl dX7_put_11 rfl ?_
  refine ax_iload_n (pc' := 13) rfl dX7_put_12 rfl ?_
  refine ax_iast (pc' := 14) A_ rfl hj hn dX7_put_13 rfl ?_
  exact ax_vret dX7_put_14 rfl (Nat.le_of_ble_eq_true rfl) (Nat.le_of_ble_eq_true rfl) (⟨rfl, rfl⟩)
theorem c_withinT {σ : ax_S} {v a b : Int32} (h1 : a ≤ v) (h2 : v ≤ b) : ax_R mX7_within 0 [.int v, .int a, .int b] σ (.int (nI 1)) := by
  refine ax_N.of (ls := [some (.int v), some (.int a), some (.int b)]) (by decide +kernel) rfl (Nat.le_of_ble_eq_true rfl) ?_
  refine ax_iload_n (pc' := 1) rfl dX7_within_0 rfl ?_
  refine ax_iload_n (pc' := 2) rfl dX7_within_1 rfl ?_
  refine ax_icmp_lt (pc' := 5) (tgt := 14) dX7_within_2 (by decide) rfl (fun hz => absurd hz (Int32.not_lt.mpr h1)) (fun _ => ?_)
  refine ax_iload_n (pc' := 6) rfl dX7_within_5 rfl ?_
  refine ax_iload_n (pc' := 7) rfl dX7_within_6 rfl ?_
  refine ax_icmp_gt (pc' := 10) (tgt := 14) dX7_within_7 (by decide) rfl (fun hz => absurd hz (Int32.not_lt.mpr h2)) (fun _ => ?_)
  refine ax_iconst (pc' := 11) (v := (nI 1)) kc_1 dX7_within_10 rfl ?_
  refine ax_goto (tgt := 15) dX7_within_11 (by decide) ?_
  exact ax_zret dX7_within_15 rfl (by decide) (Nat.le_of_ble_eq_true rfl) (Nat.le_of_ble_eq_true rfl) (⟨rfl, rfl⟩)
theorem c_withinF {σ : ax_S} {v a b : Int32} (h : ¬ (a ≤ v ∧ v ≤ b)) : ax_R mX7_within 0 [.int v, .int a, .int b] σ (.int (nI 0)) := by
  refine ax_N.of (ls := [some (.int v), some (.int a), some (.int b)]) (by decide +kernel) rfl (Nat.le_of_ble_eq_true rfl) ?_
  refine ax_iload_n (pc' := 1) rfl dX7_within_0 rfl ?_
  refine ax_iload_n (pc' := 2) rfl dX7_within_1 rfl ?_
  refine ax_icmp_lt (pc' := 5) (tgt := 14) dX7_within_2 (by decide) rfl (fun h1 => ?_) (fun h1 => ?_)
  · refine ax_iconst (pc' := 15) (v := (nI 0)) kc_0 dX7_within_14 rfl ?_
    exact ax_zret dX7_within_15 rfl (by decide) (Nat.le_of_ble_eq_true rfl) (Nat.le_of_ble_eq_true rfl) (⟨rfl, rfl⟩)
  · refine ax_iload_n (pc' := 6) rfl dX7_within_5 rfl ?_
    refine ax_iload_n (pc' := 7) rfl dX7_within_6 rfl ?_
    refine ax_icmp_gt (pc' := 10) (tgt := 14) dX7_within_7 (by decide) rfl (fun _ => ?_) (fun hz => absurd (Int32.not_le.mp (fun h2 => h ⟨Int32.not_lt.mp h1, h2⟩)) hz)
    refine ax_iconst (pc' := 15) (v := (nI 0)) kc_0 dX7_within_14 rfl ?_
    exact ax_zret dX7_within_15 rfl (by decide) (Nat.le_of_ble_eq_true rfl) (Nat.le_of_ble_eq_true rfl) (⟨rfl, rfl⟩)
theorem c_cut {σ : ax_S} {a d : Nat} (ha : a < 2 ^ 63) (h0 : 0 < d) (hd : d < 2 ^ 31) : ax_R mX7_cut 0 [.long (lN a), .int (nI d)] σ (.int (nI (a / d))) := by
  refine ax_N.of (ls := [some (.long (lN a)), none, some (.int (nI d))]) (by decide +kernel) rfl (Nat.le_of_ble_eq_true rfl) ?_
  refine ax_iload_n (pc' := 1) rfl dX7_cut_0 rfl ?_
  refine ax_if_le (pc' := 4) (tgt := 12) dX7_cut_1 (by decide) rfl (fun hz => absurd hz (nI_nle h0 hd)) (fun _ => ?_)
  refine ax_lload_n (pc' := 5) rfl dX7_cut_4 rfl ?_
  refine ax_iload_n (pc' := 6) rfl dX7_cut_5 rfl ?_
  refine ax_i2l (pc' := 7) dX7_cut_6 rfl ?_
  refine ax_topl (nI_l hd) ?_
  refine ax_ldiv (pc' := 8) (fun h => absurd ((pk_lEQ (b := 0) (by omega) (by omega)).mp h) (by omega)) dX7_cut_7 rfl ?_
  refine ax_topl (pk_lDiv ha h0 (by omega)) ?_
  refine ax_l2i (pc' := 9) dX7_cut_8 rfl ?_
  refine ax_topi (lN_i _) ?_
  refine ax_goto (tgt := 13) dX7_cut_9 (by decide) ?_
  exact ax_iret dX7_cut_13 rfl (Nat.le_of_ble_eq_true rfl) (Nat.le_of_ble_eq_true rfl) (⟨rfl, rfl⟩)
theorem c_rest {σ : ax_S} {a d : Nat} (ha : a < 2 ^ 31) (h0 : 0 < d) (hd : d < 2 ^ 31) : ax_R mX7_rest 0 [.int (nI a), .int (nI d)] σ (.int (nI (a % d))) := by
  refine ax_N.of (ls := [some (.int (nI a)), some (.int (nI d))]) (by decide +kernel) rfl (Nat.le_of_ble_eq_true rfl) ?_
  refine ax_iload_n (pc' := 1) rfl dX7_rest_0 rfl ?_
  refine ax_if_le (pc' := 4) (tgt := 10) dX7_rest_1 (by decide) rfl (fun hz => absurd hz (nI_nle h0 hd)) (fun _ => ?_)
  refine ax_iload_n (pc' := 5) rfl dX7_rest_4 rfl ?_
  refine ax_iload_n (pc' := 6) rfl dX7_rest_5 rfl ?_
  refine ax_irem (pc' := 7) (nI_ne0 h0 hd) dX7_rest_6 rfl ?_
  refine ax_topi (pk_rem ha h0 hd) ?_
  refine ax_goto (tgt := 11) dX7_rest_7 (by decide) ?_
  exact ax_iret dX7_rest_11 rfl (Nat.le_of_ble_eq_true rfl) (Nat.le_of_ble_eq_true rfl) (⟨rfl, rfl⟩)
theorem c_nineTenths {σ : ax_S} {n : Nat} (hn : n < 2 ^ 31) : ax_R mX7_nineTenths 1 [.int (nI n)] σ (.int (nI (9 * n / 10))) := by
  refine ax_N.of (ls := [some (.int (nI n))]) (by decide +kernel) rfl (Nat.le_of_ble_eq_true rfl) ?_
  refine ax_ldc2 (pc' := 3) kl_X7_330 dX7_nineTenths_0 rfl ?_
  refine ax_iload_n (pc' := 4) rfl dX7_nineTenths_3 rfl ?_
  refine ax_i2l (pc' := 5) dX7_nineTenths_4 rfl ?_
  refine ax_topl (nI_l hn) ?_
  refine ax_lmul (pc' := 6) dX7_nineTenths_5 rfl ?_
  refine ax_topl (lN_mul 9 n) ?_
  refine ax_bipush (pc' := 8) (v := (nI 10)) kb_10 dX7_nineTenths_6 rfl ?_
  refine ax_callSR (pc' := 11) ls_X7_240 (c_cut (a := 9 * n) (d := 10) (by omega) (by decide) (by decide)) rfl rfl (Nat.le_of_ble_eq_true rfl) (Nat.le_of_ble_eq_true rfl) dX7_nineTenths_8 rfl ?_
  exact ax_iret dX7_nineTenths_11 rfl (Nat.le_of_ble_eq_true rfl) (Nat.le_of_ble_eq_true rfl) (⟨rfl, rfl⟩)
theorem c_power {σ : ax_S} {x t : Nat} (ht : t < 2 ^ 31) : ax_R mX7_power 0 [.int (nI x), .int (nI t)] σ (.int (nI (x ^ t))) := by
  refine ax_N.of (ls := [some (.int (nI x)), some (.int (nI t)), none, none]) (by decide +kernel) rfl (Nat.le_of_ble_eq_true rfl) ?_
  refine ax_iconst (pc' := 1) (v := (nI 1)) kc_1 dX7_power_0 rfl ?_
  refine ax_istore_n (pc' := 2) rfl (Nat.le_of_ble_eq_true rfl) dX7_power_1 rfl ?_
  refine ax_iconst (pc' := 3) (v := (nI 0)) kc_0 dX7_power_2 rfl ?_
  refine ax_istore_n (pc' := 4) rfl (Nat.le_of_ble_eq_true rfl) dX7_power_3 rfl ?_
  have K : ∀ n i, i + n = t → ax_J (mX7_power, 0, 0, 0) 0 0 4 [some (.int (nI x)), some (.int (nI t)), some (.int (nI (x ^ i))), some (.int (nI i))] [] σ (fun r σ' => r = some (.int (nI (x ^ t))) ∧ σ' = σ) := by
    intro n
    induction n with
    | zero =>
      intro i hi
      have hi : i = t := hi
      subst hi
      refine ax_iload_n (pc' := 5) rfl dX7_power_4 rfl ?_
      refine ax_iload_n (pc' := 6) rfl dX7_power_5 rfl ?_
      refine ax_icmp_ge (pc' := 9) (tgt := 19) dX7_power_6 (by decide) rfl (fun _ => ?_) (fun hz => absurd (nI_le (Nat.le_refl _) ht) hz)
      refine ax_iload_n (pc' := 20) rfl dX7_power_19 rfl ?_
      exact ax_iret dX7_power_20 rfl (Nat.le_of_ble_eq_true rfl) (Nat.le_of_ble_eq_true rfl) (⟨rfl, rfl⟩)
    | succ n ih =>
      intro i hi
      refine ax_iload_n (pc' := 5) rfl dX7_power_4 rfl ?_
      refine ax_iload_n (pc' := 6) rfl dX7_power_5 rfl ?_
      refine ax_icmp_ge (pc' := 9) (tgt := 19) dX7_power_6 (by decide) rfl (fun hz => absurd hz (nI_ge (by omega) ht)) (fun _ => ?_)
      refine ax_iload_n (pc' := 10) rfl dX7_power_9 rfl ?_
      refine ax_iload_n (pc' := 11) rfl dX7_power_10 rfl ?_
      refine ax_imul (pc' := 12) dX7_power_11 rfl ?_
      refine ax_topi (v' := nI (x ^ (i + 1))) (by rw [pk_mul, Nat.pow_succ]) ?_
      refine ax_istore_n (pc' := 13) rfl (Nat.le_of_ble_eq_true rfl) dX7_power_12 rfl ?_
      refine ax_iinc1 (pc' := 16) rfl rfl (Nat.le_of_ble_eq_true rfl) dX7_power_13 rfl ?_
      refine ax_goto (tgt := 4) dX7_power_16 (by decide) ?_
      exact ih (i + 1) (by omega)
  exact K t 0 (Nat.zero_add t)
/-- row r of the first s goes out -/
def sp_close (f : Nat → Int32) (r s : Nat) : Nat → Int32 := fun q => if r ≤ q ∧ q + 1 < s then f (q + 1) else f q
def sp_open (f : Nat → Int32) (r s : Nat) : Nat → Int32 := fun q => if r < q ∧ q ≤ s then f (q - 1) else f q
theorem ax_arr {h : ax_H} {a n m : Nat} {b : Bool} {f g : Nat → Int32} (e : ∀ q, f q = g q) : (ax_up h a (.inl (b, n, f)), m) = ((ax_up h a (.inl (b, n, g)), m) : ax_S) := by rw [show f = g from funext e]
theorem ax_up2 {h : ax_H} {a : Nat} {c1 c2 : ax_C} : ax_up (ax_up h a c1) a c2 = ax_up h a c2 := by
  funext q
  by_cases hq : q = a <;> simp [ax_up, hq]
theorem ax_upi {h : ax_H} {a : Nat} {c : ax_C} (e : h a = some c) : ax_up h a c = h := by
  funext q
  by_cases hq : q = a
  · subst hq; simp [ax_up, e]
  · simp [ax_up, hq]
theorem c_closeGap {σ : ax_S} {a n r s : Nat} {f : Nat → Int32} (A_ : σ.1 a = some (.inl (false, n, f))) (hr : r < s) (hs : s ≤ n) (hn : n < 2 ^ 31) : ax_V mX7_closeGap 1 [.ref a, .int (nI r), .int (nI s)] σ (ax_up σ.1 a (.inl (false, n, sp_close f r s)), σ.2) := by
  refine ax_N.of (ls := [some (.ref a), some (.int (nI r)), some (.int (nI s)), none]) (by decide +kernel) rfl (Nat.le_of_ble_eq_true rfl) ?_
  refine ax_iload_n (pc' := 1) rfl dX7_closeGap_0 rfl ?_
  refine ax_istore_n (pc' := 2) rfl (Nat.le_of_ble_eq_true rfl) dX7_closeGap_1 rfl ?_
  have K : ∀ m i, r ≤ i → i + m + 1 = s → ∀ τ : ax_S, τ = (ax_up σ.1 a (.inl (false, n, fun q => if r ≤ q ∧ q < i then f (q + 1) else f q)), σ.2) → ax_J (mX7_closeGap, 1, 0, 0) 0 0 2 [some (.ref a), some (.int (nI r)), some (.int (nI s)), some (.int (nI i))] [] τ (fun r' σ' => r' = none ∧ σ' = (ax_up σ.1 a (.inl (false, n, sp_close f r s)), σ.2)) := by
    intro m
    induction m with
    | zero =>
      intro i hri hi τ hτ
      subst hτ
      refine ax_iload_n (pc' := 3) rfl dX7_closeGap_2 rfl ?_
      refine ax_iload_n (pc' := 4) rfl dX7_closeGap_3 rfl ?_
      refine ax_iconst (pc' := 5) (v := (nI 1)) kc_1 dX7_closeGap_4 rfl ?_
      refine ax_isub (pc' := 6) dX7_closeGap_5 rfl ?_
      refine ax_topi (v' := nI (s - 1)) (pk_sub (by omega)) ?_
      refine ax_icmp_ge (pc' := 9) (tgt := 27) dX7_closeGap_6 (by decide) rfl (fun _ => ?_) (fun hz => absurd (nI_le (by omega) (by omega)) hz)
      exact ax_vret dX7_closeGap_27 rfl (Nat.le_of_ble_eq_true rfl) (Nat.le_of_ble_eq_true rfl) (⟨rfl, ax_arr (fun q => by simp only [sp_close]; by_cases h1 : r ≤ q ∧ q < i <;> by_cases h2 : r ≤ q ∧ q + 1 < s <;> simp only [h1, h2, if_true, if_false] <;> omega)⟩)
    | succ m ih =>
      intro i hri hi τ hτ
      have A2 : τ.1 a = some (.inl (false, n, fun q => if r ≤ q ∧ q < i then f (q + 1) else f q)) := by rw [hτ]; exact ax_up_eq
      refine ax_iload_n (pc' := 3) rfl dX7_closeGap_2 rfl ?_
      refine ax_iload_n (pc' := 4) rfl dX7_closeGap_3 rfl ?_
      refine ax_iconst (pc' := 5) (v := (nI 1)) kc_1 dX7_closeGap_4 rfl ?_
      refine ax_isub (pc' := 6) dX7_closeGap_5 rfl ?_
      refine ax_topi (v' := nI (s - 1)) (pk_sub (by omega)) ?_
      refine ax_icmp_ge (pc' := 9) (tgt := 27) dX7_closeGap_6 (by decide) rfl (fun hz => absurd hz (nI_ge (by omega) (by omega))) (fun _ => ?_)
      refine ax_aload_n (pc' := 10) rfl dX7_closeGap_9 rfl ?_
      refine ax_iload_n (pc' := 11) rfl dX7_closeGap_10 rfl ?_
      refine ax_aload_n (pc' := 12) rfl dX7_closeGap_11 rfl ?_
      refine ax_iload_n (pc' := 13) rfl dX7_closeGap_12 rfl ?_
      refine ax_iconst (pc' := 14) (v := (nI 1)) kc_1 dX7_closeGap_13 rfl ?_
      refine ax_iadd (pc' := 15) dX7_closeGap_14 rfl ?_
      refine ax_topi (v' := nI (i + 1)) (nI_1 i) ?_
      refine ax_callSR (pc' := 18) ls_X7_120 (c_at A2 (by omega) hn) rfl rfl (Nat.le_of_ble_eq_true rfl) (Nat.le_of_ble_eq_true rfl) dX7_closeGap_15 rfl ?_
      refine ax_callSW (pc' := 21) ls_X7_332 (c_put A2 (by omega) hn) rfl rfl (Nat.le_of_ble_eq_true rfl) (Nat.le_of_ble_eq_true rfl) dX7_closeGap_18 rfl ?_
      refine ax_iinc1 (pc' := 24) rfl rfl (Nat.le_of_ble_eq_true rfl) dX7_closeGap_21 rfl ?_
      refine ax_goto (tgt := 2) dX7_closeGap_24 (by decide) ?_
      refine ih (i + 1) (by omega) (by omega) _ ?_
      rw [hτ]
      simp only [ax_up2]
      refine ax_arr (fun q => ?_)
      by_cases hq : q = i
      · subst hq
        have h1 : ¬ (r ≤ q + 1 ∧ q + 1 < q) := by omega
        have h2 : r ≤ q ∧ q < q + 1 := by omega
        simp only [upd, if_true, if_neg h1, if_pos h2]
      · by_cases h1 : r ≤ q ∧ q < i
        · have h2 : r ≤ q ∧ q < i + 1 := by omega
          simp only [upd, hq, h1, h2, if_true, if_false]
        · have h2 : ¬ (r ≤ q ∧ q < i + 1) := by omega
          simp only [upd, hq, h1, h2, if_false]
  refine K (s - r - 1) r (Nat.le_refl r) (by omega) σ ?_
  have e : (fun q => if r ≤ q ∧ q < r then f (q + 1) else f q) = f := by
    funext q
    have h2 : ¬ (r ≤ q ∧ q < r) := by omega
    simp only [h2, if_false]
  rw [e, ax_upi A_]
theorem c_openGap {σ : ax_S} {a n r s : Nat} {f : Nat → Int32} (A_ : σ.1 a = some (.inl (false, n, f))) (hr : r ≤ s) (hs : s < n) (hn : n < 2 ^ 31) : ax_V mX7_openGap 1 [.ref a, .int (nI r), .int (nI s)] σ (ax_up σ.1 a (.inl (false, n, sp_open f r s)), σ.2) := by
  refine ax_N.of (ls := [some (.ref a), some (.int (nI r)), some (.int (nI s)), none]) (by decide +kernel) rfl (Nat.le_of_ble_eq_true rfl) ?_
  refine ax_iload_n (pc' := 1) rfl dX7_openGap_0 rfl ?_
  refine ax_istore_n (pc' := 2) rfl (Nat.le_of_ble_eq_true rfl) dX7_openGap_1 rfl ?_
  have K : ∀ m i, i = r + m → i ≤ s → ∀ τ : ax_S, τ = (ax_up σ.1 a (.inl (false, n, fun q => if i < q ∧ q ≤ s then f (q - 1) else f q)), σ.2) → ax_J (mX7_openGap, 1, 0, 0) 0 0 2 [some (.ref a), some (.int (nI r)), some (.int (nI s)), some (.int (nI i))] [] τ (fun r' σ' => r' = none ∧ σ' = (ax_up σ.1 a (.inl (false, n, sp_open f r s)), σ.2)) := by
    intro m
    induction m with
    | zero =>
      intro i hi his τ hτ
      have hi : i = r := hi
      subst hi
      subst hτ
      refine ax_iload_n (pc' := 3) rfl dX7_openGap_2 rfl ?_
      refine ax_iload_n (pc' := 4) rfl dX7_openGap_3 rfl ?_
      refine ax_icmp_le (pc' := 7) (tgt := 25) dX7_openGap_4 (by decide) rfl (fun _ => ?_) (fun hz => absurd (nI_le (Nat.le_refl _) (by omega)) hz)
      exact ax_vret dX7_openGap_25 rfl (Nat.le_of_ble_eq_true rfl) (Nat.le_of_ble_eq_true rfl) (⟨rfl, rfl⟩)
    | succ m ih =>
      intro i hi his τ hτ
      have A2 : τ.1 a = some (.inl (false, n, fun q => if i < q ∧ q ≤ s then f (q - 1) else f q)) := by rw [hτ]; exact ax_up_eq
      obtain ⟨j, rfl⟩ : ∃ j, i = j + 1 := ⟨i - 1, by omega⟩
      refine ax_iload_n (pc' := 3) rfl dX7_openGap_2 rfl ?_
      refine ax_iload_n (pc' := 4) rfl dX7_openGap_3 rfl ?_
      refine ax_icmp_le (pc' := 7) (tgt := 25) dX7_openGap_4 (by decide) rfl (fun hz => absurd hz (nI_ge (by omega) (by omega))) (fun _ => ?_)
      refine ax_aload_n (pc' := 8) rfl dX7_openGap_7 rfl ?_
      refine ax_iload_n (pc' := 9) rfl dX7_openGap_8 rfl ?_
      refine ax_aload_n (pc' := 10) rfl dX7_openGap_9 rfl ?_
      refine ax_iload_n (pc' := 11) rfl dX7_openGap_10 rfl ?_
      refine ax_iconst (pc' := 12) (v := (nI 1)) kc_1 dX7_openGap_11 rfl ?_
      refine ax_isub (pc' := 13) dX7_openGap_12 rfl ?_
      refine ax_topi (v' := nI j) (nI_pred j) ?_
      refine ax_callSR (pc' := 16) ls_X7_120 (c_at A2 (by omega) hn) rfl rfl (Nat.le_of_ble_eq_true rfl) (Nat.le_of_ble_eq_true rfl) dX7_openGap_13 rfl ?_
      refine ax_callSW (pc' := 19) ls_X7_332 (c_put A2 (by omega) hn) rfl rfl (Nat.le_of_ble_eq_true rfl) (Nat.le_of_ble_eq_true rfl) dX7_openGap_16 rfl ?_
      refine ax_iincM (pc' := 22) rfl rfl (Nat.le_of_ble_eq_true rfl) dX7_openGap_19 rfl ?_
      refine ax_goto (tgt := 2) dX7_openGap_22 (by decide) ?_
      refine ih j (by omega) (by omega) _ ?_
      rw [hτ]
      simp only [ax_up2]
      refine ax_arr (fun q => ?_)
      by_cases hq : q = j + 1
      · subst hq
        have h1 : ¬ (j + 1 < j ∧ j ≤ s) := by omega
        have h2 : j < j + 1 ∧ j + 1 ≤ s := by omega
        simp only [upd, if_true, if_neg h1, if_pos h2, Nat.add_sub_cancel]
      · by_cases h1 : j + 1 < q ∧ q ≤ s
        · have h2 : j < q ∧ q ≤ s := by omega
          simp only [upd, hq, h1, h2, if_true, if_false]
        · have h2 : ¬ (j < q ∧ q ≤ s) := by omega
          simp only [upd, hq, h1, h2, if_false]
  refine K (s - r) s (by omega) (Nat.le_refl s) σ ?_
  have e : (fun q => if s < q ∧ q ≤ s then f (q - 1) else f q) = f := by
    funext q
    have h2 : ¬ (s < q ∧ q ≤ s) := by omega
    simp only [h2, if_false]
  rw [e, ax_upi A_]
def sp_copy (f g : Nat → Int32) (n : Nat) : Nat → Int32 := fun q => if q < n then f q else g q
theorem c_copyRow {σ : ax_S} {a b n : Nat} {f g : Nat → Int32} (A_ : σ.1 a = some (.inl (false, n, f))) (B_ : σ.1 b = some (.inl (false, n, g))) (hab : a ≠ b) (hn : n < 2 ^ 31) : ax_V mX7_copyRow 1 [.ref a, .ref b] σ (ax_up σ.1 b (.inl (false, n, sp_copy f g n)), σ.2) := by
  refine ax_N.of (ls := [some (.ref a), some (.ref b), none]) (by decide +kernel) rfl (Nat.le_of_ble_eq_true rfl) ?_
  refine ax_iconst (pc' := 1) (v := (nI 0)) kc_0 dX7_copyRow_0 rfl ?_
  refine ax_istore_n (pc' := 2) rfl (Nat.le_of_ble_eq_true rfl) dX7_copyRow_1 rfl ?_
  have K : ∀ m i, i + m = n → ∀ τ : ax_S, τ = (ax_up σ.1 b (.inl (false, n, sp_copy f g i)), σ.2) → ax_J (mX7_copyRow, 1, 0, 0) 0 0 2 [some (.ref a), some (.ref b), some (.int (nI i))] [] τ (fun r' σ' => r' = none ∧ σ' = (ax_up σ.1 b (.inl (false, n, sp_copy f g n)), σ.2)) := by
    intro m
    induction m with
    | zero =>
      intro i hi τ hτ
      have hi : i = n := hi
      subst hi
      subst hτ
      have A2 : (ax_up σ.1 b (.inl (false, i, sp_copy f g i))) a = some (.inl (false, i, f)) := (ax_up_ne hab).trans A_
      refine ax_iload_n (pc' := 3) rfl dX7_copyRow_2 rfl ?_
      refine ax_aload_n (pc' := 4) rfl dX7_copyRow_3 rfl ?_
      refine ax_alen (pc' := 5) A2 dX7_copyRow_4 rfl ?_
      refine ax_icmp_ge (pc' := 8) (tgt := 24) dX7_copyRow_5 (by decide) rfl (fun _ => ?_) (fun hz => absurd (nI_le (Nat.le_refl _) (by omega)) hz)
      exact ax_vret dX7_copyRow_24 rfl (Nat.le_of_ble_eq_true rfl) (Nat.le_of_ble_eq_true rfl) (⟨rfl, rfl⟩)
    | succ m ih =>
      intro i hi τ hτ
      have A2 : τ.1 a = some (.inl (false, n, f)) := by rw [hτ]; exact (ax_up_ne hab).trans A_
      have B2 : τ.1 b = some (.inl (false, n, sp_copy f g i)) := by rw [hτ]; exact ax_up_eq
      refine ax_iload_n (pc' := 3) rfl dX7_copyRow_2 rfl ?_
      refine ax_aload_n (pc' := 4) rfl dX7_copyRow_3 rfl ?_
      refine ax_alen (pc' := 5) A2 dX7_copyRow_4 rfl ?_
      refine ax_icmp_ge (pc' := 8) (tgt := 24) dX7_copyRow_5 (by decide) rfl (fun hz => absurd hz (nI_ge (by omega) (by omega))) (fun _ => ?_)
      refine ax_aload_n (pc' := 9) rfl dX7_copyRow_8 rfl ?_
      refine ax_iload_n (pc' := 10) rfl dX7_copyRow_9 rfl ?_
      refine ax_aload_n (pc' := 11) rfl dX7_copyRow_10 rfl ?_
      refine ax_iload_n (pc' := 12) rfl dX7_copyRow_11 rfl ?_
      refine ax_callSR (pc' := 15) ls_X7_120 (c_at A2 (by omega) hn) rfl rfl (Nat.le_of_ble_eq_true rfl) (Nat.le_of_ble_eq_true rfl) dX7_copyRow_12 rfl ?_
      refine ax_callSW (pc' := 18) ls_X7_332 (c_put B2 (by omega) hn) rfl rfl (Nat.le_of_ble_eq_true rfl) (Nat.le_of_ble_eq_true rfl) dX7_copyRow_15 rfl ?_
      refine ax_iinc1 (pc' := 21) rfl rfl (Nat.le_of_ble_eq_true rfl) dX7_copyRow_18 rfl ?_
      refine ax_goto (tgt := 2) dX7_copyRow_21 (by decide) ?_
      refine ih (i + 1) (by omega) _ ?_
      rw [hτ]
      simp only [ax_up2]
      refine ax_arr (fun q => ?_)
      by_cases hq : q = i
      · subst hq
        simp only [sp_copy, upd, if_true, Nat.lt_succ_self]
      · by_cases h1 : q < i
        · have h2 : q < i + 1 := by omega
          simp only [sp_copy, upd, hq, h1, h2, if_true, if_false]
        · have h2 : ¬ q < i + 1 := by omega
          simp only [sp_copy, upd, hq, h1, h2, if_false]
  refine K n 0 (Nat.zero_add n) σ ?_
  have e : sp_copy f g 0 = g := by
    funext q
    simp [sp_copy]
  rw [e, ax_upi B_]
theorem c_drawOf {σ : ax_S} {z k : Nat} (hz : z ≤ 9999) (hk : k < 40) : ax_R mX7_drawOf 0 [.int (nI z), .int (nI k)] σ (.int (nI ((7919 * z + 6151 * k + 1) * (7919 * z + 6151 * k + 1) % 65521))) := by
  refine ax_N.of (ls := [some (.int (nI z)), some (.int (nI k)), none, none]) (by decide +kernel) rfl (Nat.le_of_ble_eq_true rfl) ?_
  refine ax_ldc2 (pc' := 3) kl_X7_324 dX7_drawOf_0 rfl ?_
  refine ax_iload_n (pc' := 4) rfl dX7_drawOf_3 rfl ?_
  refine ax_i2l (pc' := 5) dX7_drawOf_4 rfl ?_
  refine ax_topl (nI_l (by omega)) ?_
  refine ax_lmul (pc' := 6) dX7_drawOf_5 rfl ?_
  refine ax_topl (lN_mul 7919 z) ?_
  refine ax_ldc2 (pc' := 9) kl_X7_326 dX7_drawOf_6 rfl ?_
  refine ax_iload_n (pc' := 10) rfl dX7_drawOf_9 rfl ?_
  refine ax_i2l (pc' := 11) dX7_drawOf_10 rfl ?_
  refine ax_topl (nI_l (by omega)) ?_
  refine ax_lmul (pc' := 12) dX7_drawOf_11 rfl ?_
  refine ax_topl (lN_mul 6151 k) ?_
  refine ax_ladd (pc' := 13) dX7_drawOf_12 rfl ?_
  refine ax_topl (lN_add _ _) ?_
  refine ax_lconst (pc' := 14) (v := lN 1) rfl dX7_drawOf_13 rfl ?_
  refine ax_ladd (pc' := 15) dX7_drawOf_14 rfl ?_
  refine ax_topl (lN_add _ 1) ?_
  obtain ⟨x, hx⟩ : ∃ x, x = 7919 * z + 6151 * k + 1 := ⟨_, rfl⟩
  rw [← hx]
  have hb : x < 80000000 := by omega
  have hb2 : x * x < 2 ^ 63 := Nat.lt_of_lt_of_le (Nat.mul_lt_mul'' hb hb) (by decide)
  refine ax_lstore_n (pc' := 16) rfl (Nat.le_of_ble_eq_true rfl) dX7_drawOf_15 rfl ?_
  refine ax_lload_n (pc' := 17) rfl dX7_drawOf_16 rfl ?_
  refine ax_lload_n (pc' := 18) rfl dX7_drawOf_17 rfl ?_
  refine ax_lmul (pc' := 19) dX7_drawOf_18 rfl ?_
  refine ax_topl (lN_mul x x) ?_
  refine ax_ldc2 (pc' := 22) kl_X7_328 dX7_drawOf_19 rfl ?_
  refine ax_lrem (pc' := 23) (fun h => absurd ((pk_lEQ (a := 65521) (b := 0) (by decide) (by decide)).mp h) (by decide)) dX7_drawOf_22 rfl ?_
  refine ax_topl (pk_lRem hb2 (by decide) (by decide)) ?_
  refine ax_l2i (pc' := 24) dX7_drawOf_23 rfl ?_
  refine ax_topi (lN_i _) ?_
  exact ax_iret dX7_drawOf_24 rfl (Nat.le_of_ble_eq_true rfl) (Nat.le_of_ble_eq_true rfl) (⟨rfl, rfl⟩)
/-- a contract of a member of the JDK's -/
theorem ax_N.ofF {M : ax_M} {d mc ms : Nat} {av : List Value} {σ : ax_S} {post : Option Value → ax_S → Prop} {ls : List (Option Value)} (hy : plainFor M.1 = true) (hl : ax_ent av ++ List.replicate (M.2.2.1 - (ax_ent av).length) none = ls) (hle : (ax_ent av).length ≤ M.2.2.1) (body : ax_J (M, d, mc, ms) 0 0 0 ls [] σ post) : ax_N M d mc ms av σ post := by
  intro l x
  refine va_MetF (cc := M.2.1) (maxL := M.2.2.1) (ret := M.2.2.2) hy rfl ?_
  intro p e s m args below meth c s₁ B hml hv
  obtain ⟨rfl, hIn⟩ := hv
  have hts := atoms_spec (ws := ax_Ws M) B.pre
  have hown : s.vm.findClass M.1.cls = some m.cls := findClass_of_methodNamed B.named
  have hnm : meth.name = M.1.name := (name_of_methodNamed B.named B.method).1
  rw [lg_entry_eq]
  have hen := lv_entry (av.map (ax_cv x)) (n := M.2.2.1) (by rw [ax_ent_len]; exact hle)
  refine body p l e s m _ below meth c x s.heap [] _ ⟨B.exec, B.bytes, B.returns, B.notSynchronized, hml, hown, hnm, fun w hw => hts w (List.mem_cons_of_mem _ hw), hIn.2.2.2⟩ ⟨hIn.1, hIn.2.1, hIn.2.2.1, va_S.rf, by rw [hIn.1]; omega⟩ ⟨hen.1, hen.2.1, fun i v hi => ?_⟩
  refine hen.2.2 (i, ax_cv x v) ?_
  have h1 := ax_ent_args x av 0 i v ?_
  · rw [Nat.zero_add] at h1
    exact h1
  · rw [← hl] at hi
    by_cases hb : i < (ax_ent av).length
    · rw [List.getElem?_append_left hb] at hi
      exact hi
    · rw [List.getElem?_append_right (by omega), List.getElem?_replicate] at hi
      split at hi
      · cases hi
      · cases hi
theorem c_abs {σ : ax_S} {v : Int32} {n : Nat} (hn : n < 2 ^ 31) (h : v = nI n ∨ v = -nI n) : ax_R mJ9_abs_0f7a4 0 [.int v] σ (.int (nI n)) := by
  refine ax_N.ofF (ls := [some (.int v)]) (by decide +kernel) rfl (Nat.le_of_ble_eq_true rfl) ?_
  refine ax_iload_n (pc' := 1) rfl dJ9_abs_0f7a4_0 rfl ?_
  rcases h with rfl | rfl
  · refine ax_if_ge (pc' := 4) (tgt := 9) dJ9_abs_0f7a4_1 (by decide) rfl (fun _ => ?_) (fun hz => absurd (nI_pos' hn) hz)
    refine ax_iload_n (pc' := 10) rfl dJ9_abs_0f7a4_9 rfl ?_
    exact ax_iret dJ9_abs_0f7a4_10 rfl (Nat.le_of_ble_eq_true rfl) (Nat.le_of_ble_eq_true rfl) (⟨rfl, rfl⟩)
  · by_cases h0 : n = 0
    · subst h0
      refine ax_if_ge (pc' := 4) (tgt := 9) dJ9_abs_0f7a4_1 (by decide) rfl (fun _ => ?_) (fun hz => absurd ((by decide)) hz)
      refine ax_iload_n (pc' := 10) rfl dJ9_abs_0f7a4_9 rfl ?_
      exact ax_iret dJ9_abs_0f7a4_10 rfl (Nat.le_of_ble_eq_true rfl) (Nat.le_of_ble_eq_true rfl) (⟨by decide, rfl⟩)
    · refine ax_if_ge (pc' := 4) (tgt := 9) dJ9_abs_0f7a4_1 (by decide) rfl (fun hz => absurd hz ((by rw [Int32.le_iff_toInt_le, sb_negT hn, Int32.toInt_zero]; omega))) (fun _ => ?_)
      refine ax_iload_n (pc' := 5) rfl dJ9_abs_0f7a4_4 rfl ?_
      refine ax_ineg (pc' := 6) dJ9_abs_0f7a4_5 rfl ?_
      refine ax_goto (tgt := 10) dJ9_abs_0f7a4_6 (by decide) ?_
      exact ax_iret dJ9_abs_0f7a4_10 rfl (Nat.le_of_ble_eq_true rfl) (Nat.le_of_ble_eq_true rfl) (⟨by rw [Int32.neg_neg], rfl⟩)
theorem c_max {σ : ax_S} {a b : Nat} (ha : a < 2 ^ 31) (hb : b < 2 ^ 31) : ax_R mJ9_max_7cf53 0 [.int (nI a), .int (nI b)] σ (.int (nI (max a b))) := by
  refine ax_N.ofF (ls := [some (.int (nI a)), some (.int (nI b))]) (by decide +kernel) rfl (Nat.le_of_ble_eq_true rfl) ?_
  refine ax_iload_n (pc' := 1) rfl dJ9_max_7cf53_0 rfl ?_
  refine ax_iload_n (pc' := 2) rfl dJ9_max_7cf53_1 rfl ?_
  by_cases h : a < b
  · refine ax_icmp_lt (pc' := 5) (tgt := 9) dJ9_max_7cf53_2 (by decide) rfl (fun _ => ?_) (fun hz => absurd (nI_lt h hb) hz)
    refine ax_iload_n (pc' := 10) rfl dJ9_max_7cf53_9 rfl ?_
    exact ax_iret dJ9_max_7cf53_10 rfl (Nat.le_of_ble_eq_true rfl) (Nat.le_of_ble_eq_true rfl) (⟨by rw [Nat.max_eq_right (by omega)], rfl⟩)
  · refine ax_icmp_lt (pc' := 5) (tgt := 9) dJ9_max_7cf53_2 (by decide) rfl (fun hz => absurd hz (nI_nlt (by omega) ha)) (fun _ => ?_)
    refine ax_iload_n (pc' := 6) rfl dJ9_max_7cf53_5 rfl ?_
    refine ax_goto (tgt := 10) dJ9_max_7cf53_6 (by decide) ?_
    exact ax_iret dJ9_max_7cf53_10 rfl (Nat.le_of_ble_eq_true rfl) (Nat.le_of_ble_eq_true rfl) (⟨by rw [Nat.max_eq_left (by omega)], rfl⟩)
theorem c_min {σ : ax_S} {a b : Nat} (ha : a < 2 ^ 31) (hb : b < 2 ^ 31) : ax_R mJ9_min_7cf53 0 [.int (nI a), .int (nI b)] σ (.int (nI (min a b))) := by
  refine ax_N.ofF (ls := [some (.int (nI a)), some (.int (nI b))]) (by decide +kernel) rfl (Nat.le_of_ble_eq_true rfl) ?_
  refine ax_iload_n (pc' := 1) rfl dJ9_min_7cf53_0 rfl ?_
  refine ax_iload_n (pc' := 2) rfl dJ9_min_7cf53_1 rfl ?_
  by_cases h : b < a
  · refine ax_icmp_gt (pc' := 5) (tgt := 9) dJ9_min_7cf53_2 (by decide) rfl (fun _ => ?_) (fun hz => absurd (nI_lt h ha) hz)
    refine ax_iload_n (pc' := 10) rfl dJ9_min_7cf53_9 rfl ?_
    exact ax_iret dJ9_min_7cf53_10 rfl (Nat.le_of_ble_eq_true rfl) (Nat.le_of_ble_eq_true rfl) (⟨by rw [Nat.min_eq_right (by omega)], rfl⟩)
  · refine ax_icmp_gt (pc' := 5) (tgt := 9) dJ9_min_7cf53_2 (by decide) rfl (fun hz => absurd hz (nI_nlt (by omega) hb)) (fun _ => ?_)
    refine ax_iload_n (pc' := 6) rfl dJ9_min_7cf53_5 rfl ?_
    refine ax_goto (tgt := 10) dJ9_min_7cf53_6 (by decide) ?_
    exact ax_iret dJ9_min_7cf53_10 rfl (Nat.le_of_ble_eq_true rfl) (Nat.le_of_ble_eq_true rfl) (⟨by rw [Nat.min_eq_left (by omega)], rfl⟩)
theorem c_commonDivisor {σ : ax_S} {a b : Nat} (hab : a ≤ b) (hb : b ≤ 1000000000) : ax_R mX7_commonDivisor 0 [.int (nI a), .int (nI b)] σ (.int (nI (Nat.gcd a b))) := by
  refine ax_N.of (ls := [some (.int (nI a)), some (.int (nI b)), none, none, none, none]) (by decide +kernel) rfl (Nat.le_of_ble_eq_true rfl) ?_
  refine ax_iload_n (pc' := 1) rfl dX7_commonDivisor_0 rfl ?_
  refine ax_istore_n (pc' := 2) rfl (Nat.le_of_ble_eq_true rfl) dX7_commonDivisor_1 rfl ?_
  refine ax_iload_n (pc' := 3) rfl dX7_commonDivisor_2 rfl ?_
  refine ax_istore_n (pc' := 4) rfl (Nat.le_of_ble_eq_true rfl) dX7_commonDivisor_3 rfl ?_
  refine ax_iconst (pc' := 5) (v := (nI 0)) kc_0 dX7_commonDivisor_4 rfl ?_
  refine ax_istore (pc' := 7) rfl (Nat.le_of_ble_eq_true rfl) dX7_commonDivisor_5 rfl ?_
  have K : ∀ m i hi lo, ∀ z : Option Value, lo ≤ hi → hi ≤ 1000000000 → hi * lo < 2 ^ m → i + m ≤ 64 → Nat.gcd lo hi = Nat.gcd a b → ax_J (mX7_commonDivisor, 0, 0, 0) 0 0 7 [some (.int (nI a)), some (.int (nI b)), some (.int (nI hi)), some (.int (nI lo)), some (.int (nI i)), z] [] σ (fun r σ' => r = some (.int (nI (Nat.gcd a b))) ∧ σ' = σ) := by
    intro m
    induction m with
    | zero =>
      intro i hi lo z h1 h2 h3 h4 h5
      have h6 : hi * lo = 0 := by omega
      have h7 : lo = 0 := by
        rcases Nat.mul_eq_zero.mp h6 with h | h
        · omega
        · exact h
      subst h7
      rw [Nat.gcd_zero_left] at h5
      by_cases hi64 : i < 64
      · refine ax_iload (pc' := 9) rfl dX7_commonDivisor_7 rfl ?_
        refine ax_bipush (pc' := 11) (v := (nI 64)) kb_64 dX7_commonDivisor_9 rfl ?_
        refine ax_icmp_ge (pc' := 14) (tgt := 34) dX7_commonDivisor_11 (by decide) rfl (fun hz => absurd hz (nI_ge hi64 (by decide))) (fun _ => ?_)
        refine ax_iload_n (pc' := 15) rfl dX7_commonDivisor_14 rfl ?_
        refine ax_if_le (pc' := 18) (tgt := 34) dX7_commonDivisor_15 (by decide) rfl (fun _ => ?_) (fun hz => absurd ((by decide)) hz)
        refine ax_iload_n (pc' := 35) rfl dX7_commonDivisor_34 rfl ?_
        exact ax_iret dX7_commonDivisor_35 rfl (Nat.le_of_ble_eq_true rfl) (Nat.le_of_ble_eq_true rfl) (⟨by rw [h5], rfl⟩)
      · refine ax_iload (pc' := 9) rfl dX7_commonDivisor_7 rfl ?_
        refine ax_bipush (pc' := 11) (v := (nI 64)) kb_64 dX7_commonDivisor_9 rfl ?_
        refine ax_icmp_ge (pc' := 14) (tgt := 34) dX7_commonDivisor_11 (by decide) rfl (fun _ => ?_) (fun hz => absurd (nI_le (by omega) (by omega)) hz)
        refine ax_iload_n (pc' := 35) rfl dX7_commonDivisor_34 rfl ?_
        exact ax_iret dX7_commonDivisor_35 rfl (Nat.le_of_ble_eq_true rfl) (Nat.le_of_ble_eq_true rfl) (⟨by rw [h5], rfl⟩)
    | succ m ih =>
      intro i hi lo z h1 h2 h3 h4 h5
      refine ax_iload (pc' := 9) rfl dX7_commonDivisor_7 rfl ?_
      refine ax_bipush (pc' := 11) (v := (nI 64)) kb_64 dX7_commonDivisor_9 rfl ?_
      refine ax_icmp_ge (pc' := 14) (tgt := 34) dX7_commonDivisor_11 (by decide) rfl (fun hz => absurd hz (nI_ge (by omega) (by decide))) (fun _ => ?_)
      refine ax_iload_n (pc' := 15) rfl dX7_commonDivisor_14 rfl ?_
      by_cases h0 : lo = 0
      · subst h0
        rw [Nat.gcd_zero_left] at h5
        refine ax_if_le (pc' := 18) (tgt := 34) dX7_commonDivisor_15 (by decide) rfl (fun _ => ?_) (fun hz => absurd ((by decide)) hz)
        refine ax_iload_n (pc' := 35) rfl dX7_commonDivisor_34 rfl ?_
        exact ax_iret dX7_commonDivisor_35 rfl (Nat.le_of_ble_eq_true rfl) (Nat.le_of_ble_eq_true rfl) (⟨by rw [h5], rfl⟩)
      · have hlo : 0 < lo := by omega
        refine ax_if_le (pc' := 18) (tgt := 34) dX7_commonDivisor_15 (by decide) rfl (fun hz => absurd hz (nI_nle hlo (by omega))) (fun _ => ?_)
        refine ax_iload_n (pc' := 19) rfl dX7_commonDivisor_18 rfl ?_
        refine ax_iload_n (pc' := 20) rfl dX7_commonDivisor_19 rfl ?_
        refine ax_irem (pc' := 21) (nI_ne0 hlo (by omega)) dX7_commonDivisor_20 rfl ?_
        refine ax_topi (pk_rem (by omega) hlo (by omega)) ?_
        have hm := Nat.mod_lt hi hlo
        have h8 : 2 * (hi % lo) ≤ hi := by
          have e1 := Nat.div_add_mod hi lo
          have e2 : 1 ≤ hi / lo := (Nat.le_div_iff_mul_le hlo).mpr (by omega)
          have e3 : lo * 1 ≤ lo * (hi / lo) := Nat.mul_le_mul_left lo e2
          omega
        have h9 : 2 * (lo * (hi % lo)) ≤ hi * lo := by
          have := Nat.mul_le_mul_left lo h8
          calc 2 * (lo * (hi % lo)) = lo * (2 * (hi % lo)) := by rw [Nat.mul_left_comm]
            _ ≤ lo * hi := this
            _ = hi * lo := Nat.mul_comm _ _
        refine ax_istore (pc' := 23) rfl (Nat.le_of_ble_eq_true rfl) dX7_commonDivisor_21 rfl ?_
        refine ax_iload_n (pc' := 24) rfl dX7_commonDivisor_23 rfl ?_
        refine ax_istore_n (pc' := 25) rfl (Nat.le_of_ble_eq_true rfl) dX7_commonDivisor_24 rfl ?_
        refine ax_iload (pc' := 27) rfl dX7_commonDivisor_25 rfl ?_
        refine ax_istore_n (pc' := 28) rfl (Nat.le_of_ble_eq_true rfl) dX7_commonDivisor_27 rfl ?_
        refine ax_iinc1 (pc' := 31) rfl rfl (Nat.le_of_ble_eq_true rfl) dX7_commonDivisor_28 rfl ?_
        refine ax_goto (tgt := 7) dX7_commonDivisor_31 (by decide) ?_
        refine ih (i + 1) lo (hi % lo) _ (by omega) (by omega) ?_ (by omega) ?_
        · rw [Nat.pow_succ] at h3
          omega
        · rw [← h5, Nat.gcd_rec lo hi]
  refine K 60 0 b a none hab hb ?_ (by decide) rfl
  calc b * a ≤ 1000000000 * 1000000000 := Nat.mul_le_mul hb (by omega)
    _ < 2 ^ 60 := by decide
def sp_tells (kd u m : Nat) : Nat := if kd = 1 then (10 * m / u + 5) / 10 * 10 else if kd = 2 then 9 * (10 * m / u) / 10 else 10 * m / u
theorem sp_div10 {m u : Nat} (hm : m ≤ 2000) : 10 * m / u ≤ 20000 := Nat.le_trans (Nat.div_le_self _ _) (by omega)
theorem c_toldOfMiles {σ : ax_S} {kd u m : Nat} (hk : kd ≤ 3) (h0 : 0 < u) (hu : u ≤ 9) (hm : m ≤ 2000) : ax_R mX7_toldOfMiles 2 [.int (nI kd), .int (nI u), .int (nI m)] σ (.int (nI (sp_tells kd u m))) := by
  have hq := sp_div10 (u := u) hm
  refine ax_N.of (ls := [some (.int (nI kd)), some (.int (nI u)), some (.int (nI m)), none]) (by decide +kernel) rfl (Nat.le_of_ble_eq_true rfl) ?_
  refine ax_ldc2 (pc' := 3) kl_X7_308 dX7_toldOfMiles_0 rfl ?_
  refine ax_iload_n (pc' := 4) rfl dX7_toldOfMiles_3 rfl ?_
  refine ax_i2l (pc' := 5) dX7_toldOfMiles_4 rfl ?_
  refine ax_topl (nI_l (by omega)) ?_
  refine ax_lmul (pc' := 6) dX7_toldOfMiles_5 rfl ?_
  refine ax_topl (lN_mul 10 m) ?_
  refine ax_iload_n (pc' := 7) rfl dX7_toldOfMiles_6 rfl ?_
  refine ax_callSR (pc' := 10) ls_X7_240 (c_cut (a := 10 * m) (d := u) (by omega) h0 (by omega)) rfl rfl (Nat.le_of_ble_eq_true rfl) (Nat.le_of_ble_eq_true rfl) dX7_toldOfMiles_7 rfl ?_
  refine ax_istore_n (pc' := 11) rfl (Nat.le_of_ble_eq_true rfl) dX7_toldOfMiles_10 rfl ?_
  refine ax_iload_n (pc' := 12) rfl dX7_toldOfMiles_11 rfl ?_
  match kd, hk with
  | 0, _ =>
    refine ax_look (off := 46) (tgt := 58) dX7_toldOfMiles_12 (by decide) (by decide) (by decide) ?_
    refine ax_iload_n (pc' := 59) rfl dX7_toldOfMiles_58 rfl ?_
    exact ax_iret dX7_toldOfMiles_59 rfl (Nat.le_of_ble_eq_true rfl) (Nat.le_of_ble_eq_true rfl) (⟨rfl, rfl⟩)
  | 1, _ =>
    refine ax_look (off := 28) (tgt := 40) dX7_toldOfMiles_12 (by decide) (by decide) (by decide) ?_
    refine ax_iload_n (pc' := 41) rfl dX7_toldOfMiles_40 rfl ?_
    refine ax_iconst (pc' := 42) (v := (nI 5)) kc_5 dX7_toldOfMiles_41 rfl ?_
    refine ax_iadd (pc' := 43) dX7_toldOfMiles_42 rfl ?_
    refine ax_topi (nI_add _ 5) ?_
    refine ax_i2l (pc' := 44) dX7_toldOfMiles_43 rfl ?_
    refine ax_topl (nI_l (by omega)) ?_
    refine ax_bipush (pc' := 46) (v := (nI 10)) kb_10 dX7_toldOfMiles_44 rfl ?_
    refine ax_callSR (pc' := 49) ls_X7_240 (c_cut (a := 10 * m / u + 5) (d := 10) (by omega) (by decide) (by decide)) rfl rfl (Nat.le_of_ble_eq_true rfl) (Nat.le_of_ble_eq_true rfl) dX7_toldOfMiles_46 rfl ?_
    refine ax_bipush (pc' := 51) (v := (nI 10)) kb_10 dX7_toldOfMiles_49 rfl ?_
    refine ax_imul (pc' := 52) dX7_toldOfMiles_51 rfl ?_
    refine ax_topi (pk_mul _ 10) ?_
    exact ax_iret dX7_toldOfMiles_52 rfl (Nat.le_of_ble_eq_true rfl) (Nat.le_of_ble_eq_true rfl) (⟨rfl, rfl⟩)
  | 2, _ =>
    refine ax_look (off := 41) (tgt := 53) dX7_toldOfMiles_12 (by decide) (by decide) (by decide) ?_
    refine ax_iload_n (pc' := 54) rfl dX7_toldOfMiles_53 rfl ?_
    refine ax_callSR (pc' := 57) ls_X7_310 (c_nineTenths (n := 10 * m / u) (by omega)) rfl rfl (Nat.le_of_ble_eq_true rfl) (Nat.le_of_ble_eq_true rfl) dX7_toldOfMiles_54 rfl ?_
    exact ax_iret dX7_toldOfMiles_57 rfl (Nat.le_of_ble_eq_true rfl) (Nat.le_of_ble_eq_true rfl) (⟨rfl, rfl⟩)
  | 3, _ =>
    refine ax_look (off := 46) (tgt := 58) dX7_toldOfMiles_12 (by decide) (by decide) (by decide) ?_
    refine ax_iload_n (pc' := 59) rfl dX7_toldOfMiles_58 rfl ?_
    exact ax_iret dX7_toldOfMiles_59 rfl (Nat.le_of_ble_eq_true rfl) (Nat.le_of_ble_eq_true rfl) (⟨rfl, rfl⟩)
/-! bitCount of a set of at most nine -/
def sp_bc (x : Int32) : Int32 :=
  let s1 := x - ((x.toUInt32 >>> ((nI 1).toUInt32 &&& Int32.toUInt32 31)).toInt32 &&& nI 1431655765)
  let s2 := (s1 &&& nI 858993459) + ((s1.toUInt32 >>> ((nI 2).toUInt32 &&& Int32.toUInt32 31)).toInt32 &&& nI 858993459)
  let s3 := (s2 + (s2.toUInt32 >>> ((nI 4).toUInt32 &&& Int32.toUInt32 31)).toInt32) &&& nI 252645135
  let s4 := s3 + (s3.toUInt32 >>> ((nI 8).toUInt32 &&& Int32.toUInt32 31)).toInt32
  let s5 := s4 + (s4.toUInt32 >>> ((nI 16).toUInt32 &&& Int32.toUInt32 31)).toInt32
  s5 &&& nI 63
/-- how many of the first n bits are set -/
def sp_bits (s : Nat) : Nat → Nat
  | 0 => 0
  | n + 1 => sp_bits s n + s / 2 ^ n % 2
theorem sp_bc_ok : ∀ s, s < 512 → sp_bc (nI s) = nI (sp_bits s 9) := by decide +kernel
theorem c_bitCount {σ : ax_S} {s : Nat} (hs : s < 512) : ax_R mJ6_bitCount_0f7a4 0 [.int (nI s)] σ (.int (nI (sp_bits s 9))) := by
  refine ax_N.ofF (ls := [some (.int (nI s))]) (by decide +kernel) rfl (Nat.le_of_ble_eq_true rfl) ?_
  refine ax_iload_n (pc' := 1) rfl dJ6_bitCount_0f7a4_0 rfl ?_
  refine ax_iload_n (pc' := 2) rfl dJ6_bitCount_0f7a4_1 rfl ?_
  refine ax_iconst (pc' := 3) (v := (nI 1)) kc_1 dJ6_bitCount_0f7a4_2 rfl ?_
  refine ax_iushr (pc' := 4) rfl dJ6_bitCount_0f7a4_3 rfl ?_
  refine ax_ldcw (pc' := 7) ki_J6_265 dJ6_bitCount_0f7a4_4 rfl ?_
  refine ax_iand (pc' := 8) dJ6_bitCount_0f7a4_7 rfl ?_
  refine ax_isub (pc' := 9) dJ6_bitCount_0f7a4_8 rfl ?_
  refine ax_istore_n (pc' := 10) rfl (Nat.le_of_ble_eq_true rfl) dJ6_bitCount_0f7a4_9 rfl ?_
  refine ax_iload_n (pc' := 11) rfl dJ6_bitCount_0f7a4_10 rfl ?_
  refine ax_ldcw (pc' := 14) ki_J6_266 dJ6_bitCount_0f7a4_11 rfl ?_
  refine ax_iand (pc' := 15) dJ6_bitCount_0f7a4_14 rfl ?_
  refine ax_iload_n (pc' := 16) rfl dJ6_bitCount_0f7a4_15 rfl ?_
  refine ax_iconst (pc' := 17) (v := (nI 2)) kc_2 dJ6_bitCount_0f7a4_16 rfl ?_
  refine ax_iushr (pc' := 18) rfl dJ6_bitCount_0f7a4_17 rfl ?_
  refine ax_ldcw (pc' := 21) ki_J6_266 dJ6_bitCount_0f7a4_18 rfl ?_
  refine ax_iand (pc' := 22) dJ6_bitCount_0f7a4_21 rfl ?_
  refine ax_iadd (pc' := 23) dJ6_bitCount_0f7a4_22 rfl ?_
  refine ax_istore_n (pc' := 24) rfl (Nat.le_of_ble_eq_true rfl) dJ6_bitCount_0f7a4_23 rfl ?_
  refine ax_iload_n (pc' := 25) rfl dJ6_bitCount_0f7a4_24 rfl ?_
  refine ax_iload_n (pc' := 26) rfl dJ6_bitCount_0f7a4_25 rfl ?_
  refine ax_iconst (pc' := 27) (v := (nI 4)) kc_4 dJ6_bitCount_0f7a4_26 rfl ?_
  refine ax_iushr (pc' := 28) rfl dJ6_bitCount_0f7a4_27 rfl ?_
  refine ax_iadd (pc' := 29) dJ6_bitCount_0f7a4_28 rfl ?_
  refine ax_ldcw (pc' := 32) ki_J6_267 dJ6_bitCount_0f7a4_29 rfl ?_
  refine ax_iand (pc' := 33) dJ6_bitCount_0f7a4_32 rfl ?_
  refine ax_istore_n (pc' := 34) rfl (Nat.le_of_ble_eq_true rfl) dJ6_bitCount_0f7a4_33 rfl ?_
  refine ax_iload_n (pc' := 35) rfl dJ6_bitCount_0f7a4_34 rfl ?_
  refine ax_iload_n (pc' := 36) rfl dJ6_bitCount_0f7a4_35 rfl ?_
  refine ax_bipush (pc' := 38) (v := (nI 8)) kb_8 dJ6_bitCount_0f7a4_36 rfl ?_
  refine ax_iushr (pc' := 39) rfl dJ6_bitCount_0f7a4_38 rfl ?_
  refine ax_iadd (pc' := 40) dJ6_bitCount_0f7a4_39 rfl ?_
  refine ax_istore_n (pc' := 41) rfl (Nat.le_of_ble_eq_true rfl) dJ6_bitCount_0f7a4_40 rfl ?_
  refine ax_iload_n (pc' := 42) rfl dJ6_bitCount_0f7a4_41 rfl ?_
  refine ax_iload_n (pc' := 43) rfl dJ6_bitCount_0f7a4_42 rfl ?_
  refine ax_bipush (pc' := 45) (v := (nI 16)) kb_16 dJ6_bitCount_0f7a4_43 rfl ?_
  refine ax_iushr (pc' := 46) rfl dJ6_bitCount_0f7a4_45 rfl ?_
  refine ax_iadd (pc' := 47) dJ6_bitCount_0f7a4_46 rfl ?_
  refine ax_istore_n (pc' := 48) rfl (Nat.le_of_ble_eq_true rfl) dJ6_bitCount_0f7a4_47 rfl ?_
  refine ax_iload_n (pc' := 49) rfl dJ6_bitCount_0f7a4_48 rfl ?_
  refine ax_bipush (pc' := 51) (v := (nI 63)) kb_63 dJ6_bitCount_0f7a4_49 rfl ?_
  refine ax_iand (pc' := 52) dJ6_bitCount_0f7a4_51 rfl ?_
  exact ax_iret dJ6_bitCount_0f7a4_52 rfl (Nat.le_of_ble_eq_true rfl) (Nat.le_of_ble_eq_true rfl) (⟨congrArg (fun z => some (Value.int z)) (sp_bc_ok s hs), rfl⟩)
theorem c_fill {σ : ax_S} {a n : Nat} {v : Int32} {f : Nat → Int32} (A_ : σ.1 a = some (.inl (false, n, f))) (hn : n < 2 ^ 31) : ax_V mJ7_fill_53178 0 [.ref a, .int v] σ (ax_up σ.1 a (.inl (false, n, sp_copy (fun _ => v) f n)), σ.2) := by
  refine ax_N.ofF (ls := [some (.ref a), some (.int v), none, none]) (by decide +kernel) rfl (Nat.le_of_ble_eq_true rfl) ?_
  refine ax_iconst (pc' := 1) (v := (nI 0)) kc_0 dJ7_fill_53178_0 rfl ?_
  refine ax_istore_n (pc' := 2) rfl (Nat.le_of_ble_eq_true rfl) dJ7_fill_53178_1 rfl ?_
  refine ax_aload_n (pc' := 3) rfl dJ7_fill_53178_2 rfl ?_
  refine ax_alen (pc' := 4) A_ dJ7_fill_53178_3 rfl ?_
  refine ax_istore_n (pc' := 5) rfl (Nat.le_of_ble_eq_true rfl) dJ7_fill_53178_4 rfl ?_
  have K : ∀ m i, i + m = n → ∀ τ : ax_S, τ = (ax_up σ.1 a (.inl (false, n, sp_copy (fun _ => v) f i)), σ.2) → ax_J (mJ7_fill_53178, 0, 0, 0) 0 0 5 [some (.ref a), some (.int v), some (.int (nI i)), some (.int (nI n))] [] τ (fun r' σ' => r' = none ∧ σ' = (ax_up σ.1 a (.inl (false, n, sp_copy (fun _ => v) f n)), σ.2)) := by
    intro m
    induction m with
    | zero =>
      intro i hi τ hτ
      have hi : i = n := hi
      subst hi
      subst hτ
      refine ax_iload_n (pc' := 6) rfl dJ7_fill_53178_5 rfl ?_
      refine ax_iload_n (pc' := 7) rfl dJ7_fill_53178_6 rfl ?_
      refine ax_icmp_ge (pc' := 10) (tgt := 20) dJ7_fill_53178_7 (by decide) rfl (fun _ => ?_) (fun hz => absurd (nI_le (Nat.le_refl _) (by omega)) hz)
      exact ax_vret dJ7_fill_53178_20 rfl (Nat.le_of_ble_eq_true rfl) (Nat.le_of_ble_eq_true rfl) (⟨rfl, rfl⟩)
    | succ m ih =>
      intro i hi τ hτ
      have A_ : τ.1 a = some (.inl (false, n, sp_copy (fun _ => v) f i)) := by rw [hτ]; exact ax_up_eq
      refine ax_iload_n (pc' := 6) rfl dJ7_fill_53178_5 rfl ?_
      refine ax_iload_n (pc' := 7) rfl dJ7_fill_53178_6 rfl ?_
      refine ax_icmp_ge (pc' := 10) (tgt := 20) dJ7_fill_53178_7 (by decide) rfl (fun hz => absurd hz (nI_ge (by omega) (by omega))) (fun _ => ?_)
      refine ax_aload_n (pc' := 11) rfl dJ7_fill_53178_10 rfl ?_
      refine ax_iload_n (pc' := 12) rfl dJ7_fill_53178_11 rfl ?_
      refine ax_iload_n (pc' := 13) rfl dJ7_fill_53178_12 rfl ?_
      refine ax_iast (pc' := 14) A_ rfl (by omega) (by first | decide | assumption | omega) dJ7_fill_53178_13 rfl ?_
      refine ax_iinc1 (pc' := 17) rfl rfl (Nat.le_of_ble_eq_true rfl) dJ7_fill_53178_14 rfl ?_
      refine ax_goto (tgt := 5) dJ7_fill_53178_17 (by decide) ?_
      refine ih (i + 1) (by omega) _ ?_
      rw [hτ]
      simp only [ax_up2]
      refine ax_arr (fun q => ?_)
      by_cases hq : q = i
      · subst hq
        simp only [sp_copy, upd, if_true, Nat.lt_succ_self]
      · by_cases h1 : q < i
        · have h2 : q < i + 1 := by omega
          simp only [sp_copy, upd, hq, h1, h2, if_true, if_false]
        · have h2 : ¬ q < i + 1 := by omega
          simp only [sp_copy, upd, hq, h1, h2, if_false]
  refine K n 0 (Nat.zero_add n) σ ?_
  have e : sp_copy (fun _ => v) f 0 = f := by
    funext q
    simp [sp_copy]
  rw [e, ax_upi A_]
