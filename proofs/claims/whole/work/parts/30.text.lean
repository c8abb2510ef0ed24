/-! ===== the first text: a String constant of the class's ===== -/
def tx_1 (k : Nat) : Nat := (ax_B1.getD k 0).toNatClampNeg
theorem tx_1_ok : ∀ k, k < 91 → ax_B1.getD k 0 = nI (tx_1 k) ∧ tx_1 k ≤ 126 := by decide +kernel
theorem tx_1_le (k : Nat) : tx_1 k ≤ 126 := by
  by_cases h : k < 91
  · exact (tx_1_ok k h).2
  · have : ax_B1.getD k 0 = 0 := by
      rw [List.getD_eq_getElem?_getD, List.getElem?_eq_none (by show 91 ≤ k; omega)]
      rfl
    rw [tx_1, this]
    decide
theorem tx_c : ∀ c, c < 127 → (nI c &&& nI 255) = nI c ∧ ((nI c).toUInt32 % 65536).toInt32 = nI c ∧ narrow .char (.int (nI c)) = .int (nI c) := by decide +kernel
def ax_LT (own : String) (idx : Nat) (M : ax_M) (n : Nat) : Prop :=
  Cond.code M.1 M.2.1 M.2.2.1 M.2.2.2 ∈ ax_Big ∧ Cond.instanceMethod M.1 ∈ ax_Big ∧ Cond.selects M.1.cls M.1 M.1 ∈ ax_Big ∧ M.1.cls = "java/lang/String" ∧ Cond.initialized M.1.cls ∈ ax_Big ∧ Cond.methodLink own idx M.1 ∈ ax_Big ∧ M.2.2.1 ≤ 16 ∧ (M.1.cls ≠ "java/lang/invoke/MethodHandle" ∧ M.1.cls ≠ "java/lang/invoke/VarHandle" ∧ (parseMethodDescriptor M.1.desc).map (fun d => d.parameters.length) = some n)
theorem lt_X7_76 : ax_LT RX7 76 mJ0_length_8abf5 0 := ⟨ax_bigI 273 (by decide +kernel) rfl, ax_bigI 271 (by decide +kernel) rfl, ax_bigI 272 (by decide +kernel) rfl, rfl, ax_bigI 66 (by decide +kernel) rfl, ax_bigI 270 (by decide +kernel) rfl, by decide, ⟨by decide +kernel, by decide +kernel, by decide +kernel⟩⟩
theorem lt_X7_82 : ax_LT RX7 82 mJ0_charAt_5068e 1 := ⟨ax_bigI 283 (by decide +kernel) rfl, ax_bigI 281 (by decide +kernel) rfl, ax_bigI 282 (by decide +kernel) rfl, rfl, ax_bigI 66 (by decide +kernel) rfl, ax_bigI 280 (by decide +kernel) rfl, by decide, ⟨by decide +kernel, by decide +kernel, by decide +kernel⟩⟩
theorem lt_J0_335 : ax_LT RJ0 335 mJ0_coder_7d493 0 := ⟨ax_bigI 277 (by decide +kernel) rfl, ax_bigI 275 (by decide +kernel) rfl, ax_bigI 276 (by decide +kernel) rfl, rfl, ax_bigI 66 (by decide +kernel) rfl, ax_bigI 274 (by decide +kernel) rfl, by decide, ⟨by decide +kernel, by decide +kernel, by decide +kernel⟩⟩
theorem lt_J0_492 : ax_LT RJ0 492 mJ0_isLatin1_aae02 0 := ⟨ax_bigI 287 (by decide +kernel) rfl, ax_bigI 285 (by decide +kernel) rfl, ax_bigI 286 (by decide +kernel) rfl, rfl, ax_bigI 66 (by decide +kernel) rfl, ax_bigI 284 (by decide +kernel) rfl, by decide, ⟨by decide +kernel, by decide +kernel, by decide +kernel⟩⟩
theorem ls_J0_1059 : ax_LS RJ0 1059 mJ3_checkIndex_8e157 3 := ⟨ax_bigI 298 (by decide +kernel) rfl, ax_bigI 297 (by decide +kernel) rfl, ax_bigI 68 (by decide +kernel) rfl, Or.inl (ax_bigI 296 (by decide +kernel) rfl), by decide, ⟨by decide +kernel, by decide +kernel, by decide +kernel⟩⟩
theorem ls_J1_9 : ax_LS RJ1 9 mJ0_checkIndex_df160 2 := ⟨ax_bigI 293 (by decide +kernel) rfl, ax_bigI 292 (by decide +kernel) rfl, ax_bigI 66 (by decide +kernel) rfl, Or.inl (ax_bigI 291 (by decide +kernel) rfl), by decide, ⟨by decide +kernel, by decide +kernel, by decide +kernel⟩⟩
theorem ls_J0_495 : ax_LS RJ0 495 mJ1_charAt_3b067 2 := ⟨ax_bigI 290 (by decide +kernel) rfl, ax_bigI 289 (by decide +kernel) rfl, ax_bigI 67 (by decide +kernel) rfl, Or.inl (ax_bigI 288 (by decide +kernel) rfl), by decide, ⟨by decide +kernel, by decide +kernel, by decide +kernel⟩⟩
theorem lf_J0_9 : Cond.fieldLink RJ0 9 "java/lang/String" "value" "[B" ∈ ax_Big := ax_bigI 1166 (by decide +kernel) rfl
theorem lf_J0_15 : Cond.fieldLink RJ0 15 "java/lang/String" "coder" "B" ∈ ax_Big := ax_bigI 1167 (by decide +kernel) rfl
theorem lf_J0_38 : Cond.fieldLink RJ0 38 "java/lang/String" "COMPACT_STRINGS" "Z" ∈ ax_Big := ax_bigI 278 (by decide +kernel) rfl
theorem lf_J0_1053 : Cond.fieldLink RJ0 1053 "jdk/internal/util/Preconditions" "SIOOBE_FORMATTER" "Ljava/util/function/BiFunction;" ∈ ax_Big := ax_bigI 294 (by decide +kernel) rfl
section TX
variable {F : ax_F} {k w pc pc' : Nat} {ls : List (Option Value)} {st : List Value} {σ : ax_S} {post : Option Value → ax_S → Prop}
theorem ax_ldcS (ho : F.1.1.cls = RX7) (hd : decode F.1.2.1 pc = .ok (.ldc 74, 2)) (hp : pc + 2 = pc') (kk : ax_J F k w pc' ls (.retAddr 0 :: st) σ post) : ax_J F k w pc ls st σ post := by
  subst hp
  intro p l e s m args below meth c x H locs lsA C Hp L
  exact va_ldcS C.1 C.2.1 (own := RX7) (by rw [← ho]; exact C.2.2.2.2.2.1) C.2.2.2.2.2.2.2.2.2.2.2.2.1 hd (kk p l e s m args below meth c x H locs lsA C Hp L)
theorem ax_aloadS {n : Fin 4} {y : Nat} (hl : ls[(n : Nat)]? = some (some (.retAddr y))) (hd : decode F.1.2.1 pc = .ok (.aload_n n, 1)) (hp : pc + 1 = pc') (kk : ax_J F k w pc' ls (.retAddr y :: st) σ post) : ax_J F k w pc ls st σ post := by
  subst hp
  intro p l e s m args below meth c x H locs lsA C Hp L
  exact lv_aload_n C.1 C.2.1 hd rfl (L.2.2 _ _ hl) (kk p l e s m args below meth c x H locs lsA C Hp L)
theorem ax_getV (hl : Cond.fieldLink F.1.1.cls 9 "java/lang/String" "value" "[B" ∈ ax_Big) (hd : decode F.1.2.1 pc = .ok (.getfield 9, 3)) (hp : pc + 3 = pc') (kk : ax_J F k w pc' ls (.retAddr 1 :: st) σ post) : ax_J F k w pc ls (.retAddr 0 :: st) σ post := by
  subst hp
  intro p l e s m args below meth c x H locs lsA C Hp L
  exact vk_getf C.1 C.2.1 (C.2.2.2.2.2.2.2.2.2.2.2.1.1 0 (by decide)).2.2.1 Hp.2.2.2.1 C.2.2.2.2.2.1 (C.2.2.2.2.2.2.2.1 _ hl) (fun _ h => h) hd (kk p l e s m args below meth c x H locs lsA C Hp L)
theorem ax_getCd (hl : Cond.fieldLink F.1.1.cls 15 "java/lang/String" "coder" "B" ∈ ax_Big) (hd : decode F.1.2.1 pc = .ok (.getfield 15, 3)) (hp : pc + 3 = pc') (kk : ax_J F k w pc' ls (.int 0 :: st) σ post) : ax_J F k w pc ls (.retAddr 0 :: st) σ post := by
  subst hp
  intro p l e s m args below meth c x H locs lsA C Hp L
  exact vk_getf C.1 C.2.1 (C.2.2.2.2.2.2.2.2.2.2.2.1.1 0 (by decide)).2.1 Hp.2.2.2.1 C.2.2.2.2.2.1 (C.2.2.2.2.2.2.2.1 _ hl) (fun _ h => h) hd (kk p l e s m args below meth c x H locs lsA C Hp L)
theorem ax_getCS (hl : Cond.fieldLink F.1.1.cls 38 "java/lang/String" "COMPACT_STRINGS" "Z" ∈ ax_Big) (hd : decode F.1.2.1 pc = .ok (.getstatic 38, 3)) (hp : pc + 3 = pc') (kk : ax_J F k w pc' ls (.int 1 :: st) σ post) : ax_J F k w pc ls st σ post := by
  subst hp
  intro p l e s m args below meth c x H locs lsA C Hp L
  exact va_gets C.1 C.2.1 C.2.2.2.2.2.2.2.2.2.2.2.2.2.1 Hp.2.2.2.1 C.2.2.2.2.2.1 (C.2.2.2.2.2.2.2.1 _ hl) (fun _ h => h) hd (kk p l e s m args below meth c x H locs lsA C Hp L)
theorem ax_getFm (hl : Cond.fieldLink F.1.1.cls 1053 "jdk/internal/util/Preconditions" "SIOOBE_FORMATTER" "Ljava/util/function/BiFunction;" ∈ ax_Big) (hd : decode F.1.2.1 pc = .ok (.getstatic 1053, 3)) (hp : pc + 3 = pc') (kk : ∀ v : Value, v = .null ∨ v = .retAddr 2 → ax_J F k w pc' ls (v :: st) σ post) : ax_J F k w pc ls st σ post := by
  subst hp
  intro p l e s m args below meth c x H locs lsA C Hp L
  rcases C.2.2.2.2.2.2.2.2.2.2.2.2.2.2 with h | h
  · exact va_gets C.1 C.2.1 h Hp.2.2.2.1 C.2.2.2.2.2.1 (C.2.2.2.2.2.2.2.1 _ hl) (fun _ h => h) hd (kk .null (Or.inl rfl) p l e s m args below meth c x H locs lsA C Hp L)
  · exact va_gets C.1 C.2.1 h Hp.2.2.2.1 C.2.2.2.2.2.1 (C.2.2.2.2.2.2.2.1 _ hl) (fun _ h => h) hd (kk (.retAddr 2) (Or.inr rfl) p l e s m args below meth c x H locs lsA C Hp L)
theorem ax_lenS (hd : decode F.1.2.1 pc = .ok (.arraylength, 1)) (hp : pc + 1 = pc') (kk : ax_J F k w pc' ls (.int (nI 91) :: st) σ post) : ax_J F k w pc ls (.retAddr 1 :: st) σ post := by
  subst hp
  intro p l e s m args below meth c x H locs lsA C Hp L
  exact va_tlen C.1 C.2.1 (C.2.2.2.2.2.2.2.2.2.2.2.1.1 0 (by decide)).2.2.2 Hp.2.2.2.1 rfl hd (kk p l e s m args below meth c x H locs lsA C Hp L)
theorem ax_atS {j : Nat} (hj : j < 91) (hd : decode F.1.2.1 pc = .ok (.baload, 1)) (hp : pc + 1 = pc') (kk : ax_J F k w pc' ls (.int (nI (tx_1 j)) :: st) σ post) : ax_J F k w pc ls (.int (nI j) :: .retAddr 1 :: st) σ post := by
  subst hp
  intro p l e s m args below meth c x H locs lsA C Hp L
  refine va_tb (i := nI j) C.1 C.2.1 (C.2.2.2.2.2.2.2.2.2.2.2.1.1 0 (by decide)).2.2.2 Hp.2.2.2.1 (vp_in_nI hj (by decide)) (v := .int (nI (tx_1 j))) ?_ hd (kk p l e s m args below meth c x H locs lsA C Hp L)
  show Value.int (ax_B1.getD (nI j).toNatClampNeg 0) = _
  rw [nI_clamp (by omega), (tx_1_ok j hj).1]
theorem ax_i2c {a : Int32} (hd : decode F.1.2.1 pc = .ok (.i2c, 1)) (hp : pc + 1 = pc') (kk : ax_J F k w pc' ls (.int (a.toUInt32 % 65536).toInt32 :: st) σ post) : ax_J F k w pc ls (.int a :: st) σ post := by
  subst hp
  intro p l e s m args below meth c x H locs lsA C Hp L
  exact lv_i2c C.1 C.2.1 hd rfl (kk p l e s m args below meth c x H locs lsA C Hp L)
theorem ax_callT {M : ax_M} {d n idx : Nat} {av rest : List Value} {v : Value} (hl : ax_LT F.1.1.cls idx M n) (hN : ax_R M d (.retAddr 0 :: av) σ v) (hst : st = ax_push (.retAddr 0 :: av) rest) (hlen : av.length = n) (hdd : d + 1 ≤ F.2.1) (hr : (rest.map Value.category).sum ≤ 8) (hk : k + 0 ≤ F.2.2.1) (hw : w + 0 ≤ F.2.2.2) (hd : decode F.1.2.1 pc = .ok (.invokevirtual idx, 3)) (hp : pc + 3 = pc') (kk : ax_J F k w pc' ls (v :: rest) σ post) : ax_J F k w pc ls st σ post := by
  subst hp
  subst hst
  obtain ⟨h1, h2, h2s, h2c, h3, h4, h5, h6⟩ := hl
  intro p l e s m args below meth c x H locs lsA C Hp L
  have hts := C.2.2.2.2.2.2.2.1
  have hR : (ax_Rm d 0 0).frames + 1 ≤ (ax_Rm F.2.1 F.2.2.1 F.2.2.2).frames ∧ 8 + (M.2.2.1 + 11) + (ax_Rm d 0 0).locals ≤ (ax_Rm F.2.1 F.2.2.1 F.2.2.2).locals := ⟨hdd, by show 8 + (M.2.2.1 + 11) + 35 * d ≤ 35 * F.2.1; omega⟩
  have hstk : (ax_push (.retAddr 0 :: av) rest).map (ax_cv x) = (av.map (ax_cv x)).reverse ++ .ref (x.2.1 0) :: rest.map (ax_cv x) := by rw [ax_push_eq]; simp [ax_cv]
  have hrecv := vk_recv C.2.2.2.2.2.2.2.2.2.2.2.1 (i := 0) (by decide) Hp.2.2.2.1
  rw [← h2c] at hrecv
  have hpre : PreV s H M.1.cls (x.2.1 0) (ax_Pc x (.retAddr 0 :: av) σ) (av.map (ax_cv x)) := ⟨ax_blind, hrecv, fun U hU hW => ax_pre (av := .retAddr 0 :: av) Hp C.2.2.2.2.2.2.2.2 hU hW⟩
  have hfx : CallFix p m c F.1.2.1 F.1.2.2.1 s args ax_Big F.1.1.cls := ⟨C.1, C.2.1, C.2.2.2.2.1, C.2.2.2.2.2.1, hts⟩
  exact ax_after (va_runV (g := F0 m pc lsA _) hfx (hN l x) ⟨callB_of n hts (ax_Ws_good h1) rfl rfl rfl (hts _ h3) (hts _ h4) h6 hR, hts _ h2, hts _ h2s⟩ hpre rfl (by rw [List.length_map]; exact hlen) L.1 hstk (ax_rest hr) hd ⟨hk, hw⟩) C Hp L (fun r σ' h => by obtain ⟨rfl, rfl⟩ := h; exact kk)
end TX
section TM
variable {σ : ax_S}
theorem t_check3 {j : Nat} {v : Value} (hj : j < 91) (hv : v = .null ∨ v = .retAddr 2) : ax_R mJ3_checkIndex_8e157 0 [.int (nI j), .int (nI 91), v] σ (.int (nI j)) := by
  rcases hv with rfl | rfl
  · refine ax_N.ofF (ls := [some (.int (nI j)), some (.int (nI 91)), some (.null)]) (by decide +kernel) rfl (Nat.le_of_ble_eq_true rfl) ?_
    refine ax_iload_n (pc' := 1) rfl dJ3_checkIndex_8e157_0 rfl ?_
    refine ax_if_lt (pc' := 4) (tgt := 9) dJ3_checkIndex_8e157_1 (by decide) rfl (fun hz => absurd hz (nI_pos (by omega))) (fun _ => ?_)
    refine ax_iload_n (pc' := 5) rfl dJ3_checkIndex_8e157_4 rfl ?_
    refine ax_iload_n (pc' := 6) rfl dJ3_checkIndex_8e157_5 rfl ?_
    refine ax_icmp_lt (pc' := 9) (tgt := 16) dJ3_checkIndex_8e157_6 (by decide) rfl (fun _ => ?_) (fun hz => absurd (nI_lt hj (by decide)) hz)
    refine ax_iload_n (pc' := 17) rfl dJ3_checkIndex_8e157_16 rfl ?_
    exact ax_iret dJ3_checkIndex_8e157_17 rfl (Nat.le_of_ble_eq_true rfl) (Nat.le_of_ble_eq_true rfl) (⟨rfl, rfl⟩)
  · refine ax_N.ofF (ls := [some (.int (nI j)), some (.int (nI 91)), some (.retAddr 2)]) (by decide +kernel) rfl (Nat.le_of_ble_eq_true rfl) ?_
    refine ax_iload_n (pc' := 1) rfl dJ3_checkIndex_8e157_0 rfl ?_
    refine ax_if_lt (pc' := 4) (tgt := 9) dJ3_checkIndex_8e157_1 (by decide) rfl (fun hz => absurd hz (nI_pos (by omega))) (fun _ => ?_)
    refine ax_iload_n (pc' := 5) rfl dJ3_checkIndex_8e157_4 rfl ?_
    refine ax_iload_n (pc' := 6) rfl dJ3_checkIndex_8e157_5 rfl ?_
    refine ax_icmp_lt (pc' := 9) (tgt := 16) dJ3_checkIndex_8e157_6 (by decide) rfl (fun _ => ?_) (fun hz => absurd (nI_lt hj (by decide)) hz)
    refine ax_iload_n (pc' := 17) rfl dJ3_checkIndex_8e157_16 rfl ?_
    exact ax_iret dJ3_checkIndex_8e157_17 rfl (Nat.le_of_ble_eq_true rfl) (Nat.le_of_ble_eq_true rfl) (⟨rfl, rfl⟩)
theorem t_check0 {j : Nat} (hj : j < 91) : ax_V mJ0_checkIndex_df160 1 [.int (nI j), .int (nI 91)] σ σ := by
  refine ax_N.ofF (ls := [some (.int (nI j)), some (.int (nI 91))]) (by decide +kernel) rfl (Nat.le_of_ble_eq_true rfl) ?_
  refine ax_iload_n (pc' := 1) rfl dJ0_checkIndex_df160_0 rfl ?_
  refine ax_iload_n (pc' := 2) rfl dJ0_checkIndex_df160_1 rfl ?_
  refine ax_getFm (pc' := 5) lf_J0_1053 dJ0_checkIndex_df160_2 rfl (fun v hv => ?_)
  refine ax_callSR (pc' := 8) ls_J0_1059 (t_check3 hj hv) rfl rfl (Nat.le_of_ble_eq_true rfl) (Nat.le_of_ble_eq_true rfl) dJ0_checkIndex_df160_5 rfl ?_
  refine ax_pop (pc' := 9) rfl dJ0_checkIndex_df160_8 rfl ?_
  exact ax_vret dJ0_checkIndex_df160_9 rfl (Nat.le_of_ble_eq_true rfl) (Nat.le_of_ble_eq_true rfl) (⟨rfl, rfl⟩)
theorem t_charAt1 {j : Nat} (hj : j < 91) : ax_R mJ1_charAt_3b067 2 [.retAddr 1, .int (nI j)] σ (.int (nI (tx_1 j))) := by
  obtain ⟨c1, c2, c3⟩ := tx_c (tx_1 j) (by have := tx_1_le j; omega)
  refine ax_N.ofF (ls := [some (.retAddr 1), some (.int (nI j))]) (by decide +kernel) rfl (Nat.le_of_ble_eq_true rfl) ?_
  refine ax_iload_n (pc' := 1) rfl dJ1_charAt_3b067_0 rfl ?_
  refine ax_aloadS (pc' := 2) rfl dJ1_charAt_3b067_1 rfl ?_
  refine ax_lenS (pc' := 3) dJ1_charAt_3b067_2 rfl ?_
  refine ax_callSW (pc' := 6) ls_J1_9 (t_check0 hj) rfl rfl (Nat.le_of_ble_eq_true rfl) (Nat.le_of_ble_eq_true rfl) dJ1_charAt_3b067_3 rfl ?_
  refine ax_aloadS (pc' := 7) rfl dJ1_charAt_3b067_6 rfl ?_
  refine ax_iload_n (pc' := 8) rfl dJ1_charAt_3b067_7 rfl ?_
  refine ax_atS (pc' := 9) hj dJ1_charAt_3b067_8 rfl ?_
  refine ax_sipush (pc' := 12) (v := (nI 255)) ks_255 dJ1_charAt_3b067_9 rfl ?_
  refine ax_iand (pc' := 13) dJ1_charAt_3b067_12 rfl ?_
  refine ax_topi c1 ?_
  refine ax_i2c (pc' := 14) dJ1_charAt_3b067_13 rfl ?_
  refine ax_topi c2 ?_
  exact ax_zret dJ1_charAt_3b067_14 rfl c3 (Nat.le_refl 0) (Nat.le_refl 0) ⟨rfl, rfl⟩
theorem t_isLatin1 : ax_R mJ0_isLatin1_aae02 0 [.retAddr 0] σ (.int (nI 1)) := by
  refine ax_N.ofF (ls := [some (.retAddr 0)]) (by decide +kernel) rfl (Nat.le_of_ble_eq_true rfl) ?_
  refine ax_getCS (pc' := 3) lf_J0_38 dJ0_isLatin1_aae02_0 rfl ?_
  refine ax_if_eq (pc' := 6) (tgt := 17) dJ0_isLatin1_aae02_3 (by decide) rfl (fun hz => absurd hz ((by decide))) (fun _ => ?_)
  refine ax_aloadS (pc' := 7) rfl dJ0_isLatin1_aae02_6 rfl ?_
  refine ax_getCd (pc' := 10) lf_J0_15 dJ0_isLatin1_aae02_7 rfl ?_
  refine ax_if_ne (pc' := 13) (tgt := 17) dJ0_isLatin1_aae02_10 (by decide) rfl (fun hz => absurd (rfl) hz) (fun _ => ?_)
  refine ax_iconst (pc' := 14) (v := (nI 1)) kc_1 dJ0_isLatin1_aae02_13 rfl ?_
  refine ax_goto (tgt := 18) dJ0_isLatin1_aae02_14 (by decide) ?_
  exact ax_zret dJ0_isLatin1_aae02_18 rfl (by decide) (Nat.le_of_ble_eq_true rfl) (Nat.le_of_ble_eq_true rfl) (⟨rfl, rfl⟩)
theorem t_coder : ax_R mJ0_coder_7d493 0 [.retAddr 0] σ (.int 0) := by
  refine ax_N.ofF (ls := [some (.retAddr 0)]) (by decide +kernel) rfl (Nat.le_of_ble_eq_true rfl) ?_
  refine ax_getCS (pc' := 3) lf_J0_38 dJ0_coder_7d493_0 rfl ?_
  refine ax_if_eq (pc' := 6) (tgt := 13) dJ0_coder_7d493_3 (by decide) rfl (fun hz => absurd hz ((by decide))) (fun _ => ?_)
  refine ax_aloadS (pc' := 7) rfl dJ0_coder_7d493_6 rfl ?_
  refine ax_getCd (pc' := 10) lf_J0_15 dJ0_coder_7d493_7 rfl ?_
  refine ax_goto (tgt := 14) dJ0_coder_7d493_10 (by decide) ?_
  exact ax_zret dJ0_coder_7d493_14 rfl (by decide) (Nat.le_of_ble_eq_true rfl) (Nat.le_of_ble_eq_true rfl) (⟨rfl, rfl⟩)
theorem t_length : ax_R mJ0_length_8abf5 1 [.retAddr 0] σ (.int (nI 91)) := by
  refine ax_N.ofF (ls := [some (.retAddr 0)]) (by decide +kernel) rfl (Nat.le_of_ble_eq_true rfl) ?_
  refine ax_aloadS (pc' := 1) rfl dJ0_length_8abf5_0 rfl ?_
  refine ax_getV (pc' := 4) lf_J0_9 dJ0_length_8abf5_1 rfl ?_
  refine ax_lenS (pc' := 5) dJ0_length_8abf5_4 rfl ?_
  refine ax_aloadS (pc' := 6) rfl dJ0_length_8abf5_5 rfl ?_
  refine ax_callT (pc' := 9) lt_J0_335 t_coder rfl rfl (Nat.le_of_ble_eq_true rfl) (Nat.le_of_ble_eq_true rfl) (Nat.le_refl 0) (Nat.le_refl 0) dJ0_length_8abf5_6 rfl ?_
  refine ax_ishr (pc' := 10) dJ0_length_8abf5_9 rfl ?_
  refine ax_topi (v' := nI 91) (by decide) ?_
  exact ax_iret dJ0_length_8abf5_10 rfl (Nat.le_of_ble_eq_true rfl) (Nat.le_of_ble_eq_true rfl) (⟨rfl, rfl⟩)
theorem t_charAt {j : Nat} (hj : j < 91) : ax_R mJ0_charAt_5068e 3 [.retAddr 0, .int (nI j)] σ (.int (nI (tx_1 j))) := by
  obtain ⟨c1, c2, c3⟩ := tx_c (tx_1 j) (by have := tx_1_le j; omega)
  refine ax_N.ofF (ls := [some (.retAddr 0), some (.int (nI j))]) (by decide +kernel) rfl (Nat.le_of_ble_eq_true rfl) ?_
  refine ax_aloadS (pc' := 1) rfl dJ0_charAt_5068e_0 rfl ?_
  refine ax_callT (pc' := 4) lt_J0_492 t_isLatin1 rfl rfl (Nat.le_of_ble_eq_true rfl) (Nat.le_of_ble_eq_true rfl) (Nat.le_refl 0) (Nat.le_refl 0) dJ0_charAt_5068e_1 rfl ?_
  refine ax_if_eq (pc' := 7) (tgt := 16) dJ0_charAt_5068e_4 (by decide) rfl (fun hz => absurd hz (kz_1)) (fun _ => ?_)
  refine ax_aloadS (pc' := 8) rfl dJ0_charAt_5068e_7 rfl ?_
  refine ax_getV (pc' := 11) lf_J0_9 dJ0_charAt_5068e_8 rfl ?_
  refine ax_iload_n (pc' := 12) rfl dJ0_charAt_5068e_11 rfl ?_
  refine ax_callSR (pc' := 15) ls_J0_495 (t_charAt1 hj) rfl rfl (Nat.le_of_ble_eq_true rfl) (Nat.le_of_ble_eq_true rfl) dJ0_charAt_5068e_12 rfl ?_
  exact ax_zret dJ0_charAt_5068e_15 rfl c3 (Nat.le_refl 0) (Nat.le_refl 0) ⟨rfl, rfl⟩
end TM
