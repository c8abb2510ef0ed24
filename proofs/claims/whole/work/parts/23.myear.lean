/-! ===== the model: MISCOUNT and YEAR ===== -/
theorem lc_eq (a b : Int64) : lg_cmp a b = 0 ↔ a = b := by
  unfold lg_cmp
  by_cases h : b < a
  · have h2 : ¬ a = b := fun q => by rw [q, Int64.lt_iff_toInt_lt] at h; omega
    simp only [h, if_true, h2, iff_false]
    decide
  · by_cases h2 : a = b
    · subst h2
      simp
    · simp only [h, if_false, h2, iff_false]
      decide
/-- the reports before k, with those of a set miscounted -/
def sp_mis (rs : List sp_rep) (s k : Nat) : List sp_rep := rs.mapIdx (fun i q => (q.1, q.2.1, q.2.2.1, if i < k ∧ sp_has s i = true then 9 * q.2.2.2 / 10 else q.2.2.2))
theorem sp_mis_len (rs : List sp_rep) (s k : Nat) : (sp_mis rs s k).length = rs.length := by simp [sp_mis]
theorem sp_mis_at {rs : List sp_rep} {s k i : Nat} (h : i < rs.length) : sp_at (sp_mis rs s k) i = ((sp_at rs i).1, (sp_at rs i).2.1, (sp_at rs i).2.2.1, if i < k ∧ sp_has s i = true then 9 * (sp_at rs i).2.2.2 / 10 else (sp_at rs i).2.2.2) := by
  simp only [sp_at, sp_mis, List.getD_eq_getElem?_getD, List.getElem?_mapIdx, List.getElem?_eq_getElem h]
  rfl
theorem sp_mis_ok {b : sp_B} {rs : List sp_rep} {s k : Nat} (hk : bk_ok b rs) : bk_ok b (sp_mis rs s k) := by
  refine ⟨by rw [sp_mis_len]; exact hk.1, fun i hi => ?_⟩
  rw [sp_mis_len] at hi
  obtain ⟨q0, q1, q2, q3⟩ := hk.2 i hi
  rw [sp_mis_at hi]
  refine ⟨q0, q1, q2, ?_⟩
  dsimp only
  split <;> omega
theorem sp_mean_ext {v v' : Nat → Option Nat} {k : Nat} (h : ∀ i, i < k → v i = v' i) : sp_mean v k = sp_mean v' k := by
  have h1 : ∀ j, j ≤ k → sp_sum v j = sp_sum v' j ∧ sp_cnt v j = sp_cnt v' j := by
    intro j
    induction j with
    | zero => exact fun _ => ⟨rfl, rfl⟩
    | succ j ih =>
      intro hj
      obtain ⟨a1, a2⟩ := ih (by omega)
      simp only [sp_sum, sp_cnt, a1, a2, h j (by omega), and_self]
  obtain ⟨a1, a2⟩ := h1 k (Nat.le_refl _)
  simp only [sp_mean, a1, a2]
theorem sp_has511 : ∀ i, i < 9 → sp_has 511 i = true := by decide +kernel
theorem sp_mis_mean {b : sp_B} {rs : List sp_rep} {s : Nat} (h9 : rs.length ≤ 9) : sp_mean (sp_sel b (sp_mis rs s rs.length) 511 0) (sp_mis rs s rs.length).length = sp_mean (sp_sel b rs 511 s) rs.length := by
  rw [sp_mis_len]
  refine sp_mean_ext (fun i hi => ?_)
  rw [sp_sel0, if_pos (sp_has511 i (by omega)), sp_mis_at hi]
  simp only [sp_sel, sp_has511 i (by omega), if_true]
  by_cases hs : sp_has s i = true
  · simp only [hi, hs, and_self, if_true, sp_gb, sp_gm]
  · simp only [hs, and_false, if_false, sp_gb, Bool.false_eq_true]
theorem sp_bits_ler (s k : Nat) : sp_bits s k ≤ k := by
  induction k with
  | zero => exact Nat.le_refl 0
  | succ k ih =>
    simp only [sp_bits]
    omega
theorem sp_bits_n : ∀ n, n < 10 → ∀ s, s < 2 ^ n → sp_bits s n = sp_bits s 9 := by decide +kernel
def sp_wt (x s k : Nat) : Nat := x ^ sp_bits s k * (10 - x) ^ (k - sp_bits s k)
theorem sp_wt_step (x s k : Nat) : sp_wt x s (k + 1) = sp_wt x s k * (if sp_has s k = true then x else 10 - x) := by
  have h := sp_bits_ler s k
  unfold sp_wt
  by_cases hs : sp_has s k = true
  · have h1 : s / 2 ^ k % 2 = 1 := by simpa [sp_has] using hs
    rw [if_pos hs]
    simp only [sp_bits, h1]
    rw [show k + 1 - (sp_bits s k + 1) = k - sp_bits s k by omega, Nat.pow_succ, Nat.mul_right_comm]
  · have h1 : s / 2 ^ k % 2 = 0 := by
      have : ¬ s / 2 ^ k % 2 = 1 := by simpa [sp_has] using hs
      omega
    rw [if_neg hs]
    simp only [sp_bits, h1, Nat.add_zero]
    rw [show k + 1 - sp_bits s k = (k - sp_bits s k) + 1 by omega, Nat.pow_succ, Nat.mul_assoc]
section MY
variable {σ : ax_S} {S : sp_S}
theorem y_miscount (hx : ms_At σ.1 S) (hS : sp_Ok S) (v u t : Int32) : ax_N mX8_miscount 8 0 0 [.ref 56, .int v, .int u, .int t] σ (ms_Po σ (o_miscount S v u t)) := by
  obtain ⟨ng, nt, nw, ap, bg, wr, f, M_o, hMb, M_slot, hSl, hNew, hTx, hSg⟩ := id hx
  have hM : ml_At σ.1 S.2.1 f := ⟨⟨ng, nt, nw, _, _, _, ap, bg, wr, _, M_o⟩, hMb, M_slot⟩
  have hb := hS.2.1
  have hk := hS.2.2.2.1
  have h9 := hk.1
  have hL := hSl.1
  refine ax_N.of (ls := [some (.ref 56), some (.int v), some (.int u), some (.int t), none, none, none, none, none, none, none, none, none, none, none]) (by decide +kernel) rfl (Nat.le_of_ble_eq_true rfl) ?_
  have NO : ∀ zz, o_miscount S v u t = (-1, S) → ax_J (mX8_miscount, 8, 0, 0) 0 0 34 zz [] σ (ms_Po σ (o_miscount S v u t)) := by
    intro zz ho
    rw [ho]
    refine ax_iconst (pc' := 35) (v := (-1)) kc_m1 dX8_miscount_34 rfl ?_
    exact ax_iret dX8_miscount_35 rfl (Nat.le_of_ble_eq_true rfl) (Nat.le_of_ble_eq_true rfl) (⟨rfl, hx, ax_fr.rf⟩)
  refine ax_iload_n (pc' := 1) rfl dX8_miscount_0 rfl ?_
  refine ax_i2l (pc' := 2) dX8_miscount_1 rfl ?_
  refine ax_lconst (pc' := 3) (v := lN 0) rfl dX8_miscount_2 rfl ?_
  refine ax_ldc2 (pc' := 6) kl_X8_242 dX8_miscount_3 rfl ?_
  rcases sp_in_cases v (lo := 0) (hi := 99) (by decide) (by decide) with ⟨e, h1, he, rfl, e1⟩ | ⟨hv, e1⟩
  · refine ax_callSR (pc' := 9) ls_X8_101 (m_isT (by decide) (by decide) (nI_le h1 (by omega)) (nI_le he (by decide))) rfl rfl (Nat.le_of_ble_eq_true rfl) (Nat.le_of_ble_eq_true rfl) dX8_miscount_6 rfl ?_
    refine ax_if_eq (pc' := 12) (tgt := 34) dX8_miscount_9 (by decide) rfl (fun hz => absurd hz (kz_1)) (fun _ => ?_)
    refine ax_iload_n (pc' := 13) rfl dX8_miscount_12 rfl ?_
    refine ax_i2l (pc' := 14) dX8_miscount_13 rfl ?_
    refine ax_lconst (pc' := 15) (v := lN 0) rfl dX8_miscount_14 rfl ?_
    refine ax_ldc2 (pc' := 18) kl_X8_266 dX8_miscount_15 rfl ?_
    rcases sp_in_cases u (lo := 0) (hi := 10) (by decide) (by decide) with ⟨x, h1, hx10, rfl, e2⟩ | ⟨hu, e2⟩
    · refine ax_callSR (pc' := 21) ls_X8_101 (m_isT (by decide) (by decide) (nI_le h1 (by omega)) (nI_le hx10 (by decide))) rfl rfl (Nat.le_of_ble_eq_true rfl) (Nat.le_of_ble_eq_true rfl) dX8_miscount_18 rfl ?_
      refine ax_if_eq (pc' := 24) (tgt := 34) dX8_miscount_21 (by decide) rfl (fun hz => absurd hz (kz_1)) (fun _ => ?_)
      refine ax_iload_n (pc' := 25) rfl dX8_miscount_24 rfl ?_
      refine ax_i2l (pc' := 26) dX8_miscount_25 rfl ?_
      refine ax_lconst (pc' := 27) (v := lN 0) rfl dX8_miscount_26 rfl ?_
      refine ax_lconst (pc' := 28) (v := lN 1) rfl dX8_miscount_27 rfl ?_
      rcases sp_in_cases t (lo := 0) (hi := 1) (by decide) (by decide) with ⟨i, h1, hi, rfl, e3⟩ | ⟨ht, e3⟩
      · refine ax_callSR (pc' := 31) ls_X8_101 (m_isT (by decide) (by decide) (nI_le h1 (by omega)) (nI_le hi (by decide))) rfl rfl (Nat.le_of_ble_eq_true rfl) (Nat.le_of_ble_eq_true rfl) dX8_miscount_28 rfl ?_
        refine ax_if_ne (pc' := 34) (tgt := 36) dX8_miscount_31 (by decide) rfl (fun _ => ?_) (fun hz => absurd hz (kz_1))
        refine ax_aload_n (pc' := 37) rfl dX8_miscount_36 rfl ?_
        refine ax_getf (pc' := 40) fl_X8_46 M_o rfl dX8_miscount_37 rfl ?_
        refine ax_bipush (pc' := 42) (v := (nI 36)) kb_36 dX8_miscount_40 rfl ?_
        refine ax_iald (pc' := 43) M_slot rfl (by omega) (by first | decide | assumption | omega) dX8_miscount_42 rfl ?_
        refine ax_topi hL.1 ?_
        refine ax_istore (pc' := 45) rfl (Nat.le_of_ble_eq_true rfl) dX8_miscount_43 rfl ?_
        refine ax_lconst (pc' := 46) (v := lN 0) rfl dX8_miscount_45 rfl ?_
        refine ax_lstore (pc' := 48) rfl (Nat.le_of_ble_eq_true rfl) dX8_miscount_46 rfl ?_
        refine ax_lconst (pc' := 49) (v := lN 0) rfl dX8_miscount_48 rfl ?_
        refine ax_lstore (pc' := 51) rfl (Nat.le_of_ble_eq_true rfl) dX8_miscount_49 rfl ?_
        refine ax_iconst (pc' := 52) (v := (nI 0)) kc_0 dX8_miscount_51 rfl ?_
        refine ax_istore (pc' := 54) rfl (Nat.le_of_ble_eq_true rfl) dX8_miscount_52 rfl ?_
        obtain ⟨rs, hrs⟩ : ∃ rs, rs = S.2.2.1.1 := ⟨_, rfl⟩
        obtain ⟨n, hn⟩ : ∃ n, n = rs.length := ⟨_, rfl⟩
        obtain ⟨P, hP⟩ : ∃ P : Nat → Bool, P = (fun s => sp_near S.2.1.1 e (sp_mean (sp_sel S.2.1 rs 511 s) rs.length)) := ⟨_, rfl⟩
        rw [← hrs] at hk h9 hL
        rw [← hrs, ← hn]
        have hn9 : n ≤ 9 := by omega
        have hpw : 2 ^ n ≤ 2 ^ 9 := Nat.pow_le_pow_right (by decide) hn9
        have hall := sp_ways_all n (by omega) x (by omega)
        have hp10 : 10 ^ n ≤ 10 ^ 9 := Nat.pow_le_pow_right (by decide) hn9
        have hp1 : 0 < 10 ^ n := Nat.pow_pos (by decide)
        have hup : sp_ways P x n (2 ^ n) ≤ 10 ^ n := by rw [← hall]; exact sp_ways_le P x n (2 ^ n)
        have hans : o_miscount S (nI e) (nI x) (nI i) = (if i = 0 then nI (sp_ways P x n (2 ^ n) / Nat.gcd (sp_ways P x n (2 ^ n)) (10 ^ n)) else nI (10 ^ n / Nat.gcd (sp_ways P x n (2 ^ n)) (10 ^ n)), S) := by
          simp only [o_miscount, e1, e2, e3, sp_up2, hP, hn, hrs]
        have fin : ∀ τ : ax_S, (∃ g, τ = (ax_up σ.1 69 (.inl (false, 456, g)), σ.2) ∧ ∀ y, y < 418 → g y = f y) → ms_At τ.1 S ∧ ax_fr 56 19 σ τ := by
          intro τ ⟨g, hτ, hg⟩
          refine ⟨ms_put (B := S.2.2.1) (us := S.2.2.2.1) (ks := S.2.2.2.2.1) hMb hNew hTx hSg (fun q _ a2 => ax_kF hτ a2) (ax_kN hτ M_o (by decide)) (ax_kS hτ) (hSl.re hS.2.2.2.2.1 (fun u hu => (hS.2.2.2.2.2.1 u hu).1) hS.2.2.2.2.2.2.1 (fun u hu => (hS.2.2.2.2.2.2.2.1 u hu).1) (hSl.1.mv hS.2.2.2.1.1 (fun y hy => hg _ (by omega))) (fun y _ a2 => hg y a2)), ax_fr.rf.up hτ (by omega) (by omega)⟩
        have E : ∀ N a c (τ : ax_S) (z13 z14 : Option Value), c ≤ N → c ≤ 10 ^ n → a ≤ 10 ^ n → Nat.gcd a c = Nat.gcd (sp_ways P x n (2 ^ n)) (10 ^ n) → (∃ g, τ = (ax_up σ.1 69 (.inl (false, 456, g)), σ.2) ∧ ∀ y, y < 418 → g y = f y) → ax_J (mX8_miscount, 8, 0, 0) 0 0 213 [some (.ref 56), some (.int (nI e)), some (.int (nI x)), some (.int (nI i)), some (.int (nI n)), some (.long (lN (sp_ways P x n (2 ^ n)))), none, some (.long (lN (10 ^ n))), none, some (.long (lN a)), none, some (.long (lN c)), none, z13, z14] [] τ (ms_Po σ (o_miscount S (nI e) (nI x) (nI i))) := by
          intro N
          induction N with
          | zero =>
            intro a c τ z13 z14 hcN hc ha hgc hτ
            have hc0 : c = 0 := Nat.le_zero.mp hcN
            subst hc0
            rw [Nat.gcd_zero_right] at hgc
            have hg0 : 0 < a := by rw [hgc]; exact Nat.gcd_pos_of_pos_right _ hp1
            obtain ⟨f1, f2⟩ := fin τ hτ
            refine ax_lload (pc' := 215) rfl dX8_miscount_213 rfl ?_
            refine ax_lconst (pc' := 216) (v := lN 0) rfl dX8_miscount_215 rfl ?_
            refine ax_lcmp (pc' := 217) dX8_miscount_216 rfl ?_
            refine ax_if_eq (pc' := 220) (tgt := 238) dX8_miscount_217 (by decide) rfl (fun _ => ?_) (fun hz => absurd ((lc_eq _ _).mpr rfl) hz)
            refine ax_iload_n (pc' := 239) rfl dX8_miscount_238 rfl ?_
            obtain rfl | rfl : i = 0 ∨ i = 1 := by omega
            · refine ax_if_ne (pc' := 242) (tgt := 250) dX8_miscount_239 (by decide) rfl (fun hz => absurd (kz_0) hz) (fun _ => ?_)
              refine ax_lload (pc' := 244) rfl dX8_miscount_242 rfl ?_
              refine ax_lload (pc' := 246) rfl dX8_miscount_244 rfl ?_
              refine ax_ldiv (pc' := 247) (fun h => absurd ((pk_lEQ (b := 0) (by omega) (by omega)).mp h) (by omega)) dX8_miscount_246 rfl ?_
              refine ax_topl (pk_lDiv (by omega) hg0 (by omega)) ?_
              refine ax_goto (tgt := 255) dX8_miscount_247 (by decide) ?_
              refine ax_l2i (pc' := 256) dX8_miscount_255 rfl ?_
              refine ax_topi (lN_i _) ?_
              exact ax_iret dX8_miscount_256 rfl (Nat.le_of_ble_eq_true rfl) (Nat.le_of_ble_eq_true rfl) (⟨by rw [hans, if_pos rfl, hgc], by rw [hans]; exact f1, f2⟩)
            · refine ax_if_ne (pc' := 242) (tgt := 250) dX8_miscount_239 (by decide) rfl (fun _ => ?_) (fun hz => absurd hz (kz_1))
              refine ax_lload (pc' := 252) rfl dX8_miscount_250 rfl ?_
              refine ax_lload (pc' := 254) rfl dX8_miscount_252 rfl ?_
              refine ax_ldiv (pc' := 255) (fun h => absurd ((pk_lEQ (b := 0) (by omega) (by omega)).mp h) (by omega)) dX8_miscount_254 rfl ?_
              refine ax_topl (pk_lDiv (by omega) hg0 (by omega)) ?_
              refine ax_l2i (pc' := 256) dX8_miscount_255 rfl ?_
              refine ax_topi (lN_i _) ?_
              exact ax_iret dX8_miscount_256 rfl (Nat.le_of_ble_eq_true rfl) (Nat.le_of_ble_eq_true rfl) (⟨by rw [hans, if_neg (by decide), hgc], by rw [hans]; exact f1, f2⟩)
          | succ N ih =>
            intro a c τ z13 z14 hcN hc ha hgc hτ
            by_cases hc0 : c = 0
            · exact ih a c τ z13 z14 (by omega) hc ha hgc hτ
            · have hlt := Nat.mod_lt a (show 0 < c by omega)
              refine ax_lload (pc' := 215) rfl dX8_miscount_213 rfl ?_
              refine ax_lconst (pc' := 216) (v := lN 0) rfl dX8_miscount_215 rfl ?_
              refine ax_lcmp (pc' := 217) dX8_miscount_216 rfl ?_
              refine ax_if_eq (pc' := 220) (tgt := 238) dX8_miscount_217 (by decide) rfl (fun hz => absurd hz (fun h => absurd ((pk_lEQ (b := 0) (by omega) (by omega)).mp ((lc_eq _ _).mp h)) hc0)) (fun _ => ?_)
              refine ax_lload (pc' := 222) rfl dX8_miscount_220 rfl ?_
              refine ax_lload (pc' := 224) rfl dX8_miscount_222 rfl ?_
              refine ax_lrem (pc' := 225) (fun h => absurd ((pk_lEQ (b := 0) (by omega) (by omega)).mp h) hc0) dX8_miscount_224 rfl ?_
              refine ax_topl (pk_lRem (by omega) (by omega) (by omega)) ?_
              refine ax_lstore (pc' := 227) rfl (Nat.le_of_ble_eq_true rfl) dX8_miscount_225 rfl ?_
              refine ax_lload (pc' := 229) rfl dX8_miscount_227 rfl ?_
              refine ax_lstore (pc' := 231) rfl (Nat.le_of_ble_eq_true rfl) dX8_miscount_229 rfl ?_
              refine ax_lload (pc' := 233) rfl dX8_miscount_231 rfl ?_
              refine ax_lstore (pc' := 235) rfl (Nat.le_of_ble_eq_true rfl) dX8_miscount_233 rfl ?_
              refine ax_goto (tgt := 213) dX8_miscount_235 (by decide) ?_
              exact ih c (a % c) τ _ _ (by omega) (by omega) hc (by rw [← hgc, Nat.gcd_comm a c, Nat.gcd_rec c a, Nat.gcd_comm]) hτ
        have K : ∀ m s (τ : ax_S) (z10 z11 z12 : Option Value), s + m = 2 ^ n → (∃ g, τ = (ax_up σ.1 69 (.inl (false, 456, g)), σ.2) ∧ ∀ y, y < 418 → g y = f y) → ax_J (mX8_miscount, 8, 0, 0) 0 0 54 [some (.ref 56), some (.int (nI e)), some (.int (nI x)), some (.int (nI i)), some (.int (nI n)), some (.long (lN (sp_ways P x n s))), none, some (.long (lN (sp_ways (fun _ => true) x n s))), none, some (.int (nI s)), z10, z11, z12, none, none] [] τ (ms_Po σ (o_miscount S (nI e) (nI x) (nI i))) := by
          intro m
          induction m with
          | zero =>
            intro s τ z10 z11 z12 hs hτ
            have hs : s = 2 ^ n := hs
            subst hs
            refine ax_iload (pc' := 56) rfl dX8_miscount_54 rfl ?_
            refine ax_iconst (pc' := 57) (v := (nI 1)) kc_1 dX8_miscount_56 rfl ?_
            refine ax_iload (pc' := 59) rfl dX8_miscount_57 rfl ?_
            refine ax_ishl (pc' := 60) dX8_miscount_59 rfl ?_
            refine ax_topi (sp_shl1 _ (by omega)) ?_
            refine ax_icmp_ge (pc' := 63) (tgt := 205) dX8_miscount_60 (by decide) rfl (fun _ => ?_) (fun hz => absurd (nI_le (Nat.le_refl _) (by omega)) hz)
            rw [hall]
            refine ax_lload (pc' := 207) rfl dX8_miscount_205 rfl ?_
            refine ax_lstore (pc' := 209) rfl (Nat.le_of_ble_eq_true rfl) dX8_miscount_207 rfl ?_
            refine ax_lload (pc' := 211) rfl dX8_miscount_209 rfl ?_
            refine ax_lstore (pc' := 213) rfl (Nat.le_of_ble_eq_true rfl) dX8_miscount_211 rfl ?_
            exact E (10 ^ n) _ _ τ none none (Nat.le_refl _) (Nat.le_refl _) hup rfl hτ
          | succ m ih =>
            intro s τ z10 z11 z12 hs hτ
            obtain ⟨g, hτ, hg⟩ := hτ
            have hM1 := hM.slot hτ
            have M_o := ax_kN hτ M_o (by decide)
            refine ax_iload (pc' := 56) rfl dX8_miscount_54 rfl ?_
            refine ax_iconst (pc' := 57) (v := (nI 1)) kc_1 dX8_miscount_56 rfl ?_
            refine ax_iload (pc' := 59) rfl dX8_miscount_57 rfl ?_
            refine ax_ishl (pc' := 60) dX8_miscount_59 rfl ?_
            refine ax_topi (sp_shl1 _ (by omega)) ?_
            refine ax_icmp_ge (pc' := 63) (tgt := 205) dX8_miscount_60 (by decide) rfl (fun hz => absurd hz (nI_ge (by omega) (by omega))) (fun _ => ?_)
            refine ax_lconst (pc' := 64) (v := lN 1) rfl dX8_miscount_63 rfl ?_
            refine ax_lstore (pc' := 66) rfl (Nat.le_of_ble_eq_true rfl) dX8_miscount_64 rfl ?_
            refine ax_aload_n (pc' := 67) rfl dX8_miscount_66 rfl ?_
            refine ax_iconst (pc' := 68) (v := (nI 0)) kc_0 dX8_miscount_67 rfl ?_
            refine ax_sipush (pc' := 71) (v := (nI 418)) ks_418 dX8_miscount_68 rfl ?_
            refine ax_callVU (pc' := 74) lv_X8_214 (m_copies (p := 0) (q := 418) hM1 (by decide) (by decide) (by omega)) M_o rfl rfl (Nat.le_of_ble_eq_true rfl) (Nat.le_of_ble_eq_true rfl) dX8_miscount_71 rfl (fun s1 g1 => ?_)
            refine ax_iconst (pc' := 75) (v := (nI 0)) kc_0 dX8_miscount_74 rfl ?_
            refine ax_istore (pc' := 77) rfl (Nat.le_of_ble_eq_true rfl) dX8_miscount_75 rfl ?_
            have hτ1 : s1 = (ax_up σ.1 69 (.inl (false, 456, sl_cp g 0 418 38)), σ.2) := by rw [g1, hτ]; simp only [ax_up2]
            have I : ∀ m2 r (ρ : ax_S) (g : Nat → Int32), r + m2 = n → ρ = (ax_up σ.1 69 (.inl (false, 456, g)), σ.2) → (∀ y, y < 418 → g y = f y) → sl_At g 418 (sp_mis rs s r) S.2.2.1.2 → ax_J (mX8_miscount, 8, 0, 0) 0 0 77 [some (.ref 56), some (.int (nI e)), some (.int (nI x)), some (.int (nI i)), some (.int (nI n)), some (.long (lN (sp_ways P x n s))), none, some (.long (lN (sp_ways (fun _ => true) x n s))), none, some (.int (nI s)), some (.long (lN (sp_wt x s r))), none, some (.int (nI r)), none, none] [] ρ (ms_Po σ (o_miscount S (nI e) (nI x) (nI i))) := by
              intro m2
              induction m2 with
              | zero =>
                intro r ρ g hr hρ hg hLr
                have hr : r = n := hr
                subst hr
                have hMr := hM.slot hρ
                have M_o := ax_kN hρ (show σ.1 56 = _ from hM.1.choose_spec.choose_spec.choose_spec.choose_spec.choose_spec.choose_spec.choose_spec.choose_spec.choose_spec.choose_spec) (by decide)
                have hwt : sp_wt x s r = x ^ sp_bits s 9 * (10 - x) ^ (r - sp_bits s 9) := by rw [sp_wt, sp_bits_n r (by omega) s (by omega)]
                have hmm := sp_mis_mean (b := S.2.1) (s := s) h9
                rw [← hn] at hmm
                refine ax_iload (pc' := 79) rfl dX8_miscount_77 rfl ?_
                refine ax_iload (pc' := 81) rfl dX8_miscount_79 rfl ?_
                refine ax_icmp_ge (pc' := 84) (tgt := 163) dX8_miscount_81 (by decide) rfl (fun _ => ?_) (fun hz => absurd (nI_le (Nat.le_refl _) (by omega)) hz)
                refine ax_lload (pc' := 165) rfl dX8_miscount_163 rfl ?_
                refine ax_lload (pc' := 167) rfl dX8_miscount_165 rfl ?_
                refine ax_ladd (pc' := 168) dX8_miscount_167 rfl ?_
                refine ax_topl (v' := lN (sp_ways (fun _ => true) x r (s + 1))) (by rw [lN_add, hwt]; simp [sp_ways]) ?_
                refine ax_lstore (pc' := 170) rfl (Nat.le_of_ble_eq_true rfl) dX8_miscount_168 rfl ?_
                refine ax_lload (pc' := 172) rfl dX8_miscount_170 rfl ?_
                refine ax_aload_n (pc' := 173) rfl dX8_miscount_172 rfl ?_
                refine ax_aload_n (pc' := 174) rfl dX8_miscount_173 rfl ?_
                refine ax_sipush (pc' := 177) (v := (nI 418)) ks_418 dX8_miscount_174 rfl ?_
                refine ax_sipush (pc' := 180) (v := (nI 511)) ks_511 dX8_miscount_177 rfl ?_
                refine ax_callVR (pc' := 183) lv_X8_233 (m_meanOf (p := 418) (ms := 511) hMr hb hLr (by decide) (sp_mis_ok hk) (by decide)) M_o rfl rfl (Nat.le_of_ble_eq_true rfl) (Nat.le_of_ble_eq_true rfl) dX8_miscount_180 rfl ?_
                rw [hmm, hn]
                refine ax_iload_n (pc' := 184) rfl dX8_miscount_183 rfl ?_
                refine ax_callVR (pc' := 187) lv_X8_247 (m_isNear hMr hb (fun m hm => Nat.le_trans (sp_mean_le (fun i m hi h => sp_sel_le hb hk hi h) hm) (by decide)) he) M_o rfl rfl (Nat.le_of_ble_eq_true rfl) (Nat.le_of_ble_eq_true rfl) dX8_miscount_184 rfl ?_
                rw [← hn]
                by_cases hp : P s = true
                · refine ax_if_eq (pc' := 190) (tgt := 195) dX8_miscount_187 (by decide) rfl (fun hz => absurd hz (by rw [show sp_near S.2.1.1 e (sp_mean (sp_sel S.2.1 rs 511 s) r) = true by rw [hn]; rw [hP] at hp; exact hp]; exact kz_1)) (fun _ => ?_)
                  refine ax_lload (pc' := 192) rfl dX8_miscount_190 rfl ?_
                  refine ax_goto (tgt := 196) dX8_miscount_192 (by decide) ?_
                  refine ax_ladd (pc' := 197) dX8_miscount_196 rfl ?_
                  refine ax_topl (v' := lN (sp_ways P x r (s + 1))) (by rw [lN_add, hwt]; simp [sp_ways, hp]) ?_
                  refine ax_lstore (pc' := 199) rfl (Nat.le_of_ble_eq_true rfl) dX8_miscount_197 rfl ?_
                  refine ax_iinc1 (pc' := 202) rfl rfl (Nat.le_of_ble_eq_true rfl) dX8_miscount_199 rfl ?_
                  refine ax_goto (tgt := 54) dX8_miscount_202 (by decide) ?_
                  exact ih (s + 1) ρ _ _ _ (by omega) ⟨g, hρ, hg⟩
                · refine ax_if_eq (pc' := 190) (tgt := 195) dX8_miscount_187 (by decide) rfl (fun _ => ?_) (fun hz => absurd (by rw [show sp_near S.2.1.1 e (sp_mean (sp_sel S.2.1 rs 511 s) r) = false by rw [hn]; rw [hP] at hp; simpa using hp]; exact kz_0) hz)
                  refine ax_lconst (pc' := 196) (v := lN 0) rfl dX8_miscount_195 rfl ?_
                  refine ax_ladd (pc' := 197) dX8_miscount_196 rfl ?_
                  refine ax_topl (v' := lN (sp_ways P x r (s + 1))) (by rw [lN_add]; simp [sp_ways, hp]) ?_
                  refine ax_lstore (pc' := 199) rfl (Nat.le_of_ble_eq_true rfl) dX8_miscount_197 rfl ?_
                  refine ax_iinc1 (pc' := 202) rfl rfl (Nat.le_of_ble_eq_true rfl) dX8_miscount_199 rfl ?_
                  refine ax_goto (tgt := 54) dX8_miscount_202 (by decide) ?_
                  exact ih (s + 1) ρ _ _ _ (by omega) ⟨g, hρ, hg⟩
              | succ m2 ih2 =>
                intro r ρ g hr hρ hg hLr
                have hMr := hM.slot hρ
                have hrl : r < rs.length := by omega
                have M_o := ax_kN hρ (show σ.1 56 = _ from hM.1.choose_spec.choose_spec.choose_spec.choose_spec.choose_spec.choose_spec.choose_spec.choose_spec.choose_spec.choose_spec) (by decide)
                have M_slot := ax_kS hρ
                have hL0 : sl_At g 0 rs S.2.2.1.2 := hL.mv h9 (fun y hy => hg _ (by omega))
                obtain ⟨-, -, -, q3⟩ := hk.2 r hrl
                refine ax_iload (pc' := 79) rfl dX8_miscount_77 rfl ?_
                refine ax_iload (pc' := 81) rfl dX8_miscount_79 rfl ?_
                refine ax_icmp_ge (pc' := 84) (tgt := 163) dX8_miscount_81 (by decide) rfl (fun hz => absurd hz (nI_ge (by omega) (by omega))) (fun _ => ?_)
                refine ax_lload (pc' := 86) rfl dX8_miscount_84 rfl ?_
                refine ax_iload (pc' := 88) rfl dX8_miscount_86 rfl ?_
                refine ax_iload (pc' := 90) rfl dX8_miscount_88 rfl ?_
                refine ax_callSR (pc' := 93) ls_X8_230 (m_has (s := s) (k := r) (by omega) (by omega)) rfl rfl (Nat.le_of_ble_eq_true rfl) (Nat.le_of_ble_eq_true rfl) dX8_miscount_90 rfl ?_
                have J : ∀ y, y = (if sp_has s r = true then x else 10 - x) → ax_J (mX8_miscount, 8, 0, 0) 0 0 106 [some (.ref 56), some (.int (nI e)), some (.int (nI x)), some (.int (nI i)), some (.int (nI n)), some (.long (lN (sp_ways P x n s))), none, some (.long (lN (sp_ways (fun _ => true) x n s))), none, some (.int (nI s)), some (.long (lN (sp_wt x s r))), none, some (.int (nI r)), none, none] [.long (lN y), .long (lN (sp_wt x s r))] ρ (ms_Po σ (o_miscount S (nI e) (nI x) (nI i))) := by
                  intro y hy
                  refine ax_lmul (pc' := 107) dX8_miscount_106 rfl ?_
                  refine ax_topl (v' := lN (sp_wt x s (r + 1))) (by rw [lN_mul, sp_wt_step, ← hy]) ?_
                  refine ax_lstore (pc' := 109) rfl (Nat.le_of_ble_eq_true rfl) dX8_miscount_107 rfl ?_
                  refine ax_aload_n (pc' := 110) rfl dX8_miscount_109 rfl ?_
                  refine ax_getf (pc' := 113) fl_X8_46 M_o rfl dX8_miscount_110 rfl ?_
                  refine ax_sipush (pc' := 116) (v := (nI 418)) ks_418 dX8_miscount_113 rfl ?_
                  refine ax_iconst (pc' := 117) (v := (nI 4)) kc_4 dX8_miscount_116 rfl ?_
                  refine ax_iload (pc' := 119) rfl dX8_miscount_117 rfl ?_
                  refine ax_imul (pc' := 120) dX8_miscount_119 rfl ?_
                  refine ax_iadd (pc' := 121) dX8_miscount_120 rfl ?_
                  refine ax_iconst (pc' := 122) (v := (nI 3)) kc_3 dX8_miscount_121 rfl ?_
                  refine ax_iadd (pc' := 123) dX8_miscount_122 rfl ?_
                  refine ax_topi (v' := nI (418 + 4 * r + 3)) (by rw [pk_mul, nI_add, nI_add]) ?_
                  refine ax_iload (pc' := 125) rfl dX8_miscount_123 rfl ?_
                  refine ax_iload (pc' := 127) rfl dX8_miscount_125 rfl ?_
                  refine ax_callSR (pc' := 130) ls_X8_230 (m_has (s := s) (k := r) (by omega) (by omega)) rfl rfl (Nat.le_of_ble_eq_true rfl) (Nat.le_of_ble_eq_true rfl) dX8_miscount_127 rfl ?_
                  have Z : ∀ z, z = (if sp_has s r = true then 9 * (sp_at rs r).2.2.2 / 10 else (sp_at rs r).2.2.2) → ax_J (mX8_miscount, 8, 0, 0) 0 0 156 [some (.ref 56), some (.int (nI e)), some (.int (nI x)), some (.int (nI i)), some (.int (nI n)), some (.long (lN (sp_ways P x n s))), none, some (.long (lN (sp_ways (fun _ => true) x n s))), none, some (.int (nI s)), some (.long (lN (sp_wt x s (r + 1)))), none, some (.int (nI r)), none, none] [.int (nI z), .int (nI (418 + 4 * r + 3)), .ref 69] ρ (ms_Po σ (o_miscount S (nI e) (nI x) (nI i))) := by
                    intro z hz
                    refine ax_iasu (pc' := 157) M_slot rfl (by omega) (by first | decide | assumption | omega) dX8_miscount_156 rfl (fun s3 g3 => ?_)
                    refine ax_iinc1 (pc' := 160) rfl rfl (Nat.le_of_ble_eq_true rfl) dX8_miscount_157 rfl ?_
                    refine ax_goto (tgt := 77) dX8_miscount_160 (by decide) ?_
                    refine ih2 (r + 1) s3 (upd g (418 + 4 * r + 3) (nI z)) (by omega) (by rw [g3, hρ]; simp only [ax_up2]) (fun y hy => by rw [pk_un (by omega)]; exact hg y hy) ⟨?_, ?_, fun j hj => ?_⟩
                    · rw [pk_un (by omega), sp_mis_len]
                      have := hLr.1
                      rw [sp_mis_len] at this
                      exact this
                    · rw [pk_un (by omega)]
                      exact hLr.2.1
                    · rw [sp_mis_len] at hj
                      have hj2 := hLr.2.2 j (by rw [sp_mis_len]; exact hj)
                      rw [sp_mis_at hj] at hj2 ⊢
                      dsimp only at hj2 ⊢
                      rw [pk_un (by omega), pk_un (by omega), pk_un (by omega)]
                      refine ⟨hj2.1, hj2.2.1, hj2.2.2.1, ?_⟩
                      by_cases ejr : j = r
                      · subst ejr
                        rw [pk_us, hz]
                        simp only [Nat.lt_succ_self, true_and]
                      · rw [pk_un (by omega), hj2.2.2.2]
                        by_cases c1 : j < r
                        · simp only [c1, show j < r + 1 by omega, true_and]
                        · simp only [c1, show ¬ j < r + 1 by omega, false_and]
                  by_cases hs1 : sp_has s r = true
                  · refine ax_if_eq (pc' := 133) (tgt := 149) dX8_miscount_130 (by decide) rfl (fun hz => absurd hz (by rw [hs1]; exact kz_1)) (fun _ => ?_)
                    refine ax_aload_n (pc' := 134) rfl dX8_miscount_133 rfl ?_
                    refine ax_iconst (pc' := 135) (v := (nI 0)) kc_0 dX8_miscount_134 rfl ?_
                    refine ax_iload (pc' := 137) rfl dX8_miscount_135 rfl ?_
                    refine ax_callVR (pc' := 140) lv_X8_194 (m_toldBy (p := 0) hMr hL0 (by decide) hk hrl) M_o rfl rfl (Nat.le_of_ble_eq_true rfl) (Nat.le_of_ble_eq_true rfl) dX8_miscount_137 rfl ?_
                    refine ax_bipush (pc' := 142) (v := (nI 9)) kb_9 dX8_miscount_140 rfl ?_
                    refine ax_imul (pc' := 143) dX8_miscount_142 rfl ?_
                    refine ax_topi (v' := nI (9 * (sp_at rs r).2.2.2)) (by rw [pk_mul, Nat.mul_comm]) ?_
                    refine ax_bipush (pc' := 145) (v := (nI 10)) kb_10 dX8_miscount_143 rfl ?_
                    refine ax_idiv (pc' := 146) (by decide) dX8_miscount_145 rfl ?_
                    refine ax_topi (pk_div (by omega) (by decide) (by decide)) ?_
                    refine ax_goto (tgt := 156) dX8_miscount_146 (by decide) ?_
                    exact Z _ (by rw [if_pos hs1])
                  · refine ax_if_eq (pc' := 133) (tgt := 149) dX8_miscount_130 (by decide) rfl (fun _ => ?_) (fun hz => absurd (by rw [show sp_has s r = false by simpa using hs1]; exact kz_0) hz)
                    refine ax_aload_n (pc' := 150) rfl dX8_miscount_149 rfl ?_
                    refine ax_iconst (pc' := 151) (v := (nI 0)) kc_0 dX8_miscount_150 rfl ?_
                    refine ax_iload (pc' := 153) rfl dX8_miscount_151 rfl ?_
                    refine ax_callVR (pc' := 156) lv_X8_194 (m_toldBy (p := 0) hMr hL0 (by decide) hk hrl) M_o rfl rfl (Nat.le_of_ble_eq_true rfl) (Nat.le_of_ble_eq_true rfl) dX8_miscount_153 rfl ?_
                    exact Z _ (by rw [if_neg hs1])
                by_cases hs1 : sp_has s r = true
                · refine ax_if_eq (pc' := 96) (tgt := 101) dX8_miscount_93 (by decide) rfl (fun hz => absurd hz (by rw [hs1]; exact kz_1)) (fun _ => ?_)
                  refine ax_iload_n (pc' := 97) rfl dX8_miscount_96 rfl ?_
                  refine ax_i2l (pc' := 98) dX8_miscount_97 rfl ?_
                  refine ax_topl (nI_l (by omega)) ?_
                  refine ax_goto (tgt := 106) dX8_miscount_98 (by decide) ?_
                  exact J x (by rw [if_pos hs1])
                · refine ax_if_eq (pc' := 96) (tgt := 101) dX8_miscount_93 (by decide) rfl (fun _ => ?_) (fun hz => absurd (by rw [show sp_has s r = false by simpa using hs1]; exact kz_0) hz)
                  refine ax_bipush (pc' := 103) (v := (nI 10)) kb_10 dX8_miscount_101 rfl ?_
                  refine ax_iload_n (pc' := 104) rfl dX8_miscount_103 rfl ?_
                  refine ax_isub (pc' := 105) dX8_miscount_104 rfl ?_
                  refine ax_topi (pk_sub hx10) ?_
                  refine ax_i2l (pc' := 106) dX8_miscount_105 rfl ?_
                  refine ax_topl (nI_l (by omega)) ?_
                  exact J (10 - x) (by rw [if_neg hs1])
            refine I n 0 s1 _ (Nat.zero_add _) hτ1 (fun y hy => by rw [sl_cp_out (by omega)]; exact hg y hy) ?_
            have hL1 : sl_At (sl_cp g 0 418 38) 418 rs S.2.2.1.2 := hL.mv h9 (fun y hy => by rw [sl_cp_in hy]; exact hg _ (by omega))
            refine hL1.ext (sp_mis_len _ _ _) (fun j hj => ?_)
            rw [sp_mis_at hj]
            simp only [Nat.not_lt_zero, false_and, if_false]
        refine K (2 ^ n) 0 σ none none none (Nat.zero_add _) ⟨f, ?_, fun y _ => rfl⟩
        rw [ax_upi M_slot]
      · refine ax_callSR (pc' := 31) ls_X8_101 (m_isF (by decide) (by decide) ht) rfl rfl (Nat.le_of_ble_eq_true rfl) (Nat.le_of_ble_eq_true rfl) dX8_miscount_28 rfl ?_
        refine ax_if_ne (pc' := 34) (tgt := 36) dX8_miscount_31 (by decide) rfl (fun hz => absurd (kz_0) hz) (fun _ => ?_)
        exact NO _ (by simp [o_miscount, e1, e2, e3])
    · refine ax_callSR (pc' := 21) ls_X8_101 (m_isF (by decide) (by decide) hu) rfl rfl (Nat.le_of_ble_eq_true rfl) (Nat.le_of_ble_eq_true rfl) dX8_miscount_18 rfl ?_
      refine ax_if_eq (pc' := 24) (tgt := 34) dX8_miscount_21 (by decide) rfl (fun _ => ?_) (fun hz => absurd (kz_0) hz)
      exact NO _ (by simp [o_miscount, e1, e2])
  · refine ax_callSR (pc' := 9) ls_X8_101 (m_isF (by decide) (by decide) hv) rfl rfl (Nat.le_of_ble_eq_true rfl) (Nat.le_of_ble_eq_true rfl) dX8_miscount_6 rfl ?_
    refine ax_if_eq (pc' := 12) (tgt := 34) dX8_miscount_9 (by decide) rfl (fun _ => ?_) (fun hz => absurd (kz_0) hz)
    exact NO _ (by simp [o_miscount, e1])
theorem y_year (hx : ms_At σ.1 S) (hS : sp_Ok S) (v u t : Int32) : ax_N mX8_year 8 0 0 [.ref 56, .int v, .int u, .int t] σ (ms_Po σ (o_year S v u t)) := by
  obtain ⟨ng, nt, nw, ap, bg, wr, f, M_o, hMb, M_slot, hSl, hNew, hTx, hSg⟩ := id hx
  have hM : ml_At σ.1 S.2.1 f := ⟨⟨ng, nt, nw, _, _, _, ap, bg, wr, _, M_o⟩, hMb, M_slot⟩
  have hb := hS.2.1
  have hk := hS.2.2.2.1
  have h9 := hk.1
  have hL := hSl.1
  have h6 := hb.2.1
  have h4 := hb.2.2.1
  obtain ⟨ht2, hw1⟩ := hS.2.2.1
  refine ax_N.of (ls := [some (.ref 56), some (.int v), some (.int u), some (.int t), none, none, none, none, none, none, none]) (by decide +kernel) rfl (Nat.le_of_ble_eq_true rfl) ?_
  have NO : ∀ zz, o_year S v u t = (-1, S) → ax_J (mX8_year, 8, 0, 0) 0 0 34 zz [] σ (ms_Po σ (o_year S v u t)) := by
    intro zz ho
    rw [ho]
    refine ax_iconst (pc' := 35) (v := (-1)) kc_m1 dX8_year_34 rfl ?_
    exact ax_iret dX8_year_35 rfl (Nat.le_of_ble_eq_true rfl) (Nat.le_of_ble_eq_true rfl) (⟨rfl, hx, ax_fr.rf⟩)
  refine ax_iload_n (pc' := 1) rfl dX8_year_0 rfl ?_
  refine ax_i2l (pc' := 2) dX8_year_1 rfl ?_
  refine ax_lconst (pc' := 3) (v := lN 0) rfl dX8_year_2 rfl ?_
  refine ax_ldc2 (pc' := 6) kl_X8_258 dX8_year_3 rfl ?_
  rcases sp_in_cases v (lo := 0) (hi := 9999) (by decide) (by decide) with ⟨z, h1, hz, rfl, e1⟩ | ⟨hv, e1⟩
  · refine ax_callSR (pc' := 9) ls_X8_101 (m_isT (by decide) (by decide) (nI_le h1 (by omega)) (nI_le hz (by decide))) rfl rfl (Nat.le_of_ble_eq_true rfl) (Nat.le_of_ble_eq_true rfl) dX8_year_6 rfl ?_
    refine ax_if_eq (pc' := 12) (tgt := 34) dX8_year_9 (by decide) rfl (fun hz => absurd hz (kz_1)) (fun _ => ?_)
    refine ax_iload_n (pc' := 13) rfl dX8_year_12 rfl ?_
    refine ax_i2l (pc' := 14) dX8_year_13 rfl ?_
    refine ax_lconst (pc' := 15) (v := lN 1) rfl dX8_year_14 rfl ?_
    refine ax_ldc2 (pc' := 18) kl_X8_268 dX8_year_15 rfl ?_
    rcases sp_in_cases u (lo := 1) (hi := 40) (by decide) (by decide) with ⟨n, hn1, hn2, rfl, e2⟩ | ⟨hu, e2⟩
    · refine ax_callSR (pc' := 21) ls_X8_101 (m_isT (by decide) (by decide) (nI_le hn1 (by omega)) (nI_le hn2 (by decide))) rfl rfl (Nat.le_of_ble_eq_true rfl) (Nat.le_of_ble_eq_true rfl) dX8_year_18 rfl ?_
      refine ax_if_eq (pc' := 24) (tgt := 34) dX8_year_21 (by decide) rfl (fun hz => absurd hz (kz_1)) (fun _ => ?_)
      refine ax_iload_n (pc' := 25) rfl dX8_year_24 rfl ?_
      refine ax_i2l (pc' := 26) dX8_year_25 rfl ?_
      refine ax_lconst (pc' := 27) (v := lN 0) rfl dX8_year_26 rfl ?_
      refine ax_lconst (pc' := 28) (v := lN 1) rfl dX8_year_27 rfl ?_
      rcases sp_in_cases t (lo := 0) (hi := 1) (by decide) (by decide) with ⟨i, h1, hi, rfl, e3⟩ | ⟨ht, e3⟩
      · refine ax_callSR (pc' := 31) ls_X8_101 (m_isT (by decide) (by decide) (nI_le h1 (by omega)) (nI_le hi (by decide))) rfl rfl (Nat.le_of_ble_eq_true rfl) (Nat.le_of_ble_eq_true rfl) dX8_year_28 rfl ?_
        refine ax_if_ne (pc' := 34) (tgt := 36) dX8_year_31 (by decide) rfl (fun _ => ?_) (fun hz => absurd hz (kz_1))
        refine ax_aload_n (pc' := 37) rfl dX8_year_36 rfl ?_
        refine ax_iconst (pc' := 38) (v := (nI 0)) kc_0 dX8_year_37 rfl ?_
        refine ax_sipush (pc' := 41) (v := (nI 418)) ks_418 dX8_year_38 rfl ?_
        refine ax_callVU (pc' := 44) lv_X8_214 (m_copies (p := 0) (q := 418) hM (by decide) (by decide) (by omega)) M_o rfl rfl (Nat.le_of_ble_eq_true rfl) (Nat.le_of_ble_eq_true rfl) dX8_year_41 rfl (fun s1 g1 => ?_)
        refine ax_iconst (pc' := 45) (v := (nI 0)) kc_0 dX8_year_44 rfl ?_
        refine ax_istore (pc' := 47) rfl (Nat.le_of_ble_eq_true rfl) dX8_year_45 rfl ?_
        refine ax_iconst (pc' := 48) (v := (nI 0)) kc_0 dX8_year_47 rfl ?_
        refine ax_istore (pc' := 50) rfl (Nat.le_of_ble_eq_true rfl) dX8_year_48 rfl ?_
        have K : ∀ m j (td : Nat) (τ : ax_S) (g : Nat → Int32) (z6 z7 z8 z9 z10 : Option Value), j + m = n → td ≤ 13300 * j → τ = (ax_up σ.1 69 (.inl (false, 456, g)), σ.2) → (∀ y, y < 418 → g y = f y) → sl_At g 418 (sp_yr S.2.1 S.2.2.1 z j).1 (sp_yr S.2.1 S.2.2.1 z j).2 → ax_J (mX8_year, 8, 0, 0) 0 0 50 [some (.ref 56), some (.int (nI z)), some (.int (nI n)), some (.int (nI i)), some (.int (nI td)), some (.int (nI j)), z6, z7, z8, z9, z10] [] τ (ms_Po σ (o_year S (nI z) (nI n) (nI i))) := by
          intro m
          induction m with
          | zero =>
            intro j td τ g z6 z7 z8 z9 z10 hj htd hτ hg hY
            have hj : j = n := hj
            subst hj
            have hMr := hM.slot hτ
            have M_o := ax_kN hτ M_o (by decide)
            have M_slot := ax_kS hτ
            have hYo := sp_yr_ok (z := z) (k := j) hb hk ht2 hw1
            have fin : ms_At τ.1 S ∧ ax_fr 56 19 σ τ := ⟨ms_put (B := S.2.2.1) (us := S.2.2.2.1) (ks := S.2.2.2.2.1) hMb hNew hTx hSg (fun q _ a2 => ax_kF hτ a2) M_o M_slot (hSl.re hS.2.2.2.2.1 (fun u hu => (hS.2.2.2.2.2.1 u hu).1) hS.2.2.2.2.2.2.1 (fun u hu => (hS.2.2.2.2.2.2.2.1 u hu).1) (hSl.1.mv h9 (fun y hy => hg _ (by omega))) (fun y _ a2 => hg y a2)), ax_fr.rf.up hτ (by omega) (by omega)⟩
            refine ax_iload (pc' := 52) rfl dX8_year_50 rfl ?_
            refine ax_iload_n (pc' := 53) rfl dX8_year_52 rfl ?_
            refine ax_icmp_ge (pc' := 56) (tgt := 166) dX8_year_53 (by decide) rfl (fun _ => ?_) (fun hz => absurd (nI_le (Nat.le_refl _) (by omega)) hz)
            refine ax_iload (pc' := 168) rfl dX8_year_166 rfl ?_
            refine ax_if_ge (pc' := 171) (tgt := 176) dX8_year_168 (by decide) rfl (fun _ => ?_) (fun hz => absurd (nI_pos' (by omega)) hz)
            refine ax_iload_n (pc' := 177) rfl dX8_year_176 rfl ?_
            obtain rfl | rfl : i = 0 ∨ i = 1 := by omega
            · refine ax_if_ne (pc' := 180) (tgt := 193) dX8_year_177 (by decide) rfl (fun hz => absurd (kz_0) hz) (fun _ => ?_)
              refine ax_aload_n (pc' := 181) rfl dX8_year_180 rfl ?_
              refine ax_sipush (pc' := 184) (v := (nI 418)) ks_418 dX8_year_181 rfl ?_
              refine ax_sipush (pc' := 187) (v := (nI 511)) ks_511 dX8_year_184 rfl ?_
              refine ax_callVR (pc' := 190) lv_X8_233 (m_meanOf (p := 418) (ms := 511) hMr hb hY (by decide) hYo (by decide)) M_o rfl rfl (Nat.le_of_ble_eq_true rfl) (Nat.le_of_ble_eq_true rfl) dX8_year_187 rfl ?_
              refine ax_goto (tgt := 209) dX8_year_190 (by decide) ?_
              exact ax_iret dX8_year_209 rfl (Nat.le_of_ble_eq_true rfl) (Nat.le_of_ble_eq_true rfl) (⟨by simp [o_year, e1, e2, e3], fin.1, fin.2⟩)
            · refine ax_if_ne (pc' := 180) (tgt := 193) dX8_year_177 (by decide) rfl (fun _ => ?_) (fun hz => absurd hz (kz_1))
              refine ax_aload_n (pc' := 194) rfl dX8_year_193 rfl ?_
              refine ax_getf (pc' := 197) fl_X8_46 M_o rfl dX8_year_194 rfl ?_
              refine ax_sipush (pc' := 200) (v := (nI 455)) ks_455 dX8_year_197 rfl ?_
              refine ax_iald (pc' := 201) M_slot rfl (by omega) (by first | decide | assumption | omega) dX8_year_200 rfl ?_
              refine ax_topi hY.2.1 ?_
              refine ax_aload_n (pc' := 202) rfl dX8_year_201 rfl ?_
              refine ax_getf (pc' := 205) fl_X8_46 M_o rfl dX8_year_202 rfl ?_
              refine ax_bipush (pc' := 207) (v := (nI 37)) kb_37 dX8_year_205 rfl ?_
              refine ax_iald (pc' := 208) M_slot rfl (by omega) (by first | decide | assumption | omega) dX8_year_207 rfl ?_
              refine ax_topi ((hg 37 (by decide)).trans hL.2.1) ?_
              refine ax_isub (pc' := 209) dX8_year_208 rfl ?_
              exact ax_iret dX8_year_209 rfl (Nat.le_of_ble_eq_true rfl) (Nat.le_of_ble_eq_true rfl) (⟨by simp [o_year, e1, e2, e3], fin.1, fin.2⟩)
          | succ m ih =>
            intro j td τ g z6 z7 z8 z9 z10 hj htd hτ hg hY
            have hMr := hM.slot hτ
            have M_o := ax_kN hτ M_o (by decide)
            have M_slot := ax_kS hτ
            have hYo := sp_yr_ok (z := z) (k := j) hb hk ht2 hw1
            obtain ⟨B, hB⟩ : ∃ B, B = sp_yr S.2.1 S.2.2.1 z j := ⟨_, rfl⟩
            have hBs : sp_yr S.2.1 S.2.2.1 z (j + 1) = sp_wd S.2.1 B ((7919 * z + 6151 * j + 1) * (7919 * z + 6151 * j + 1) % 65521) := by rw [sp_yr, hB]
            rw [← hB] at hY hYo
            refine ax_iload (pc' := 52) rfl dX8_year_50 rfl ?_
            refine ax_iload_n (pc' := 53) rfl dX8_year_52 rfl ?_
            refine ax_icmp_ge (pc' := 56) (tgt := 166) dX8_year_53 (by decide) rfl (fun hz => absurd hz (nI_ge (by omega) (by omega))) (fun _ => ?_)
            refine ax_ldc2 (pc' := 59) kl_X8_270 dX8_year_56 rfl ?_
            refine ax_iload_n (pc' := 60) rfl dX8_year_59 rfl ?_
            refine ax_i2l (pc' := 61) dX8_year_60 rfl ?_
            refine ax_topl (nI_l (by omega)) ?_
            refine ax_lmul (pc' := 62) dX8_year_61 rfl ?_
            refine ax_topl (lN_mul 7919 z) ?_
            refine ax_ldc2 (pc' := 65) kl_X8_272 dX8_year_62 rfl ?_
            refine ax_iload (pc' := 67) rfl dX8_year_65 rfl ?_
            refine ax_i2l (pc' := 68) dX8_year_67 rfl ?_
            refine ax_topl (nI_l (by omega)) ?_
            refine ax_lmul (pc' := 69) dX8_year_68 rfl ?_
            refine ax_topl (lN_mul 6151 j) ?_
            refine ax_ladd (pc' := 70) dX8_year_69 rfl ?_
            refine ax_topl (lN_add _ _) ?_
            refine ax_lconst (pc' := 71) (v := lN 1) rfl dX8_year_70 rfl ?_
            refine ax_ladd (pc' := 72) dX8_year_71 rfl ?_
            refine ax_topl (lN_add _ 1) ?_
            obtain ⟨x, hxx⟩ : ∃ x, x = 7919 * z + 6151 * j + 1 := ⟨_, rfl⟩
            rw [← hxx] at hBs ⊢
            have hxb : x < 80000000 := by omega
            have hxb2 : x * x < 2 ^ 63 := Nat.lt_of_lt_of_le (Nat.mul_lt_mul'' hxb hxb) (by decide)
            refine ax_lstore (pc' := 74) rfl (Nat.le_of_ble_eq_true rfl) dX8_year_72 rfl ?_
            refine ax_lload (pc' := 76) rfl dX8_year_74 rfl ?_
            refine ax_lload (pc' := 78) rfl dX8_year_76 rfl ?_
            refine ax_lmul (pc' := 79) dX8_year_78 rfl ?_
            refine ax_topl (lN_mul x x) ?_
            refine ax_ldc2 (pc' := 82) kl_X8_274 dX8_year_79 rfl ?_
            refine ax_lrem (pc' := 83) (fun h => absurd ((pk_lEQ (a := 65521) (b := 0) (by decide) (by decide)).mp h) (by decide)) dX8_year_82 rfl ?_
            refine ax_topl (pk_lRem hxb2 (by decide) (by decide)) ?_
            refine ax_l2i (pc' := 84) dX8_year_83 rfl ?_
            refine ax_topi (lN_i _) ?_
            obtain ⟨d, hd⟩ : ∃ d, d = x * x % 65521 := ⟨_, rfl⟩
            have hdl : d < 65521 := by rw [hd]; exact Nat.mod_lt _ (by decide)
            rw [← hd] at hBs ⊢
            have m1 := Nat.mod_lt d (show 0 < S.2.1.2.2.1 by omega)
            have m2 := Nat.mod_lt (d / 4) (show 0 < S.2.1.2.1 by omega)
            have m3 := Nat.mod_lt (d / 32) (show 0 < S.2.1.2.1 by omega)
            refine ax_istore (pc' := 86) rfl (Nat.le_of_ble_eq_true rfl) dX8_year_84 rfl ?_
            refine ax_iload (pc' := 88) rfl dX8_year_86 rfl ?_
            refine ax_iconst (pc' := 89) (v := (nI 4)) kc_4 dX8_year_88 rfl ?_
            refine ax_idiv (pc' := 90) (by decide) dX8_year_89 rfl ?_
            refine ax_topi (pk_div (by omega) (by decide) (by decide)) ?_
            refine ax_aload_n (pc' := 91) rfl dX8_year_90 rfl ?_
            refine ax_getf (pc' := 94) fl_X8_95 M_o rfl dX8_year_91 rfl ?_
            refine ax_irem (pc' := 95) (nI_ne0 (by omega) (by omega)) dX8_year_94 rfl ?_
            refine ax_topi (pk_rem (by omega) (by omega) (by omega)) ?_
            refine ax_istore (pc' := 97) rfl (Nat.le_of_ble_eq_true rfl) dX8_year_95 rfl ?_
            refine ax_iload (pc' := 99) rfl dX8_year_97 rfl ?_
            refine ax_bipush (pc' := 101) (v := (nI 32)) kb_32 dX8_year_99 rfl ?_
            refine ax_idiv (pc' := 102) (by decide) dX8_year_101 rfl ?_
            refine ax_topi (pk_div (by omega) (by decide) (by decide)) ?_
            refine ax_aload_n (pc' := 103) rfl dX8_year_102 rfl ?_
            refine ax_getf (pc' := 106) fl_X8_95 M_o rfl dX8_year_103 rfl ?_
            refine ax_irem (pc' := 107) (nI_ne0 (by omega) (by omega)) dX8_year_106 rfl ?_
            refine ax_topi (pk_rem (by omega) (by omega) (by omega)) ?_
            refine ax_istore (pc' := 109) rfl (Nat.le_of_ble_eq_true rfl) dX8_year_107 rfl ?_
            refine ax_iload (pc' := 111) rfl dX8_year_109 rfl ?_
            refine ax_iload (pc' := 113) rfl dX8_year_111 rfl ?_
            by_cases hac : d / 4 % S.2.1.2.1 = d / 32 % S.2.1.2.1
            · refine ax_icmp_eq (pc' := 116) (tgt := 160) dX8_year_113 (by decide) rfl (fun _ => ?_) (fun hz => absurd (by rw [hac]) hz)
              refine ax_iinc1 (pc' := 163) rfl rfl (Nat.le_of_ble_eq_true rfl) dX8_year_160 rfl ?_
              refine ax_goto (tgt := 50) dX8_year_163 (by decide) ?_
              refine ih (j + 1) td τ g _ _ _ _ _ (by omega) (by omega) hτ hg ?_
              rw [hBs, sp_wd, if_pos hac]
              exact hY
            · rw [sp_wd, if_neg hac] at hBs
              refine ax_icmp_eq (pc' := 116) (tgt := 160) dX8_year_113 (by decide) rfl (fun hz => absurd hz (fun h => hac ((nI_eq (by omega) (by omega)).mp h))) (fun _ => ?_)
              refine ax_aload_n (pc' := 117) rfl dX8_year_116 rfl ?_
              refine ax_getf (pc' := 120) fl_X8_46 M_o rfl dX8_year_117 rfl ?_
              refine ax_sipush (pc' := 123) (v := (nI 454)) ks_454 dX8_year_120 rfl ?_
              refine ax_iald (pc' := 124) M_slot rfl (by omega) (by first | decide | assumption | omega) dX8_year_123 rfl ?_
              refine ax_topi hY.1 ?_
              refine ax_bipush (pc' := 126) (v := (nI 9)) kb_9 dX8_year_124 rfl ?_
              have W : ∀ (ρ : ax_S) (g : Nat → Int32) (rs : List sp_rep), rs = (if B.1.length < 9 then B.1 else sp_del B.1 0) → bk_ok S.2.1 rs → rs.length < 9 → ρ = (ax_up σ.1 69 (.inl (false, 456, g)), σ.2) → (∀ y, y < 418 → g y = f y) → sl_At g 418 rs B.2 → ax_J (mX8_year, 8, 0, 0) 0 0 137 [some (.ref 56), some (.int (nI z)), some (.int (nI n)), some (.int (nI i)), some (.int (nI td)), some (.int (nI j)), some (.long (lN x)), none, some (.int (nI d)), some (.int (nI (d / 4 % S.2.1.2.1))), some (.int (nI (d / 32 % S.2.1.2.1)))] [] ρ (ms_Po σ (o_year S (nI z) (nI n) (nI i))) := by
                intro ρ g rs hrs hko hr9 hρ hg hLr
                have hMr := hM.slot hρ
                have M_o := ax_kN hρ (show σ.1 56 = _ from hM.1.choose_spec.choose_spec.choose_spec.choose_spec.choose_spec.choose_spec.choose_spec.choose_spec.choose_spec.choose_spec) (by decide)
                have htl := sp_told_le hb hko (w := d % S.2.1.2.2.1) (a := d / 4 % S.2.1.2.1) (c := d / 32 % S.2.1.2.1) (kd := sp_K S.2.1 (d % S.2.1.2.2.1)) (u := sp_U S.2.1 (d % S.2.1.2.2.1)) (by have := (hb.2.2.2.2.2 (d % S.2.1.2.2.1)).2.2.2.1; omega)
                refine ax_iload (pc' := 139) rfl dX8_year_137 rfl ?_
                refine ax_aload_n (pc' := 140) rfl dX8_year_139 rfl ?_
                refine ax_sipush (pc' := 143) (v := (nI 418)) ks_418 dX8_year_140 rfl ?_
                refine ax_iload (pc' := 145) rfl dX8_year_143 rfl ?_
                refine ax_aload_n (pc' := 146) rfl dX8_year_145 rfl ?_
                refine ax_getf (pc' := 149) fl_X8_98 M_o rfl dX8_year_146 rfl ?_
                refine ax_irem (pc' := 150) (nI_ne0 (by omega) (by omega)) dX8_year_149 rfl ?_
                refine ax_topi (pk_rem (by omega) (by omega) (by omega)) ?_
                refine ax_iload (pc' := 152) rfl dX8_year_150 rfl ?_
                refine ax_iload (pc' := 154) rfl dX8_year_152 rfl ?_
                refine ax_callVG (pc' := 157) lv_X8_224 (m_walks (p := 418) hMr hb hLr (by decide) hko hr9 m1 m2 m3) M_o rfl rfl (Nat.le_of_ble_eq_true rfl) (Nat.le_of_ble_eq_true rfl) dX8_year_154 rfl (fun r3 s3 hr3 => ?_)
                obtain ⟨rfl, g3, h3, hL3, hg3⟩ := hr3
                refine ax_iadd (pc' := 158) dX8_year_157 rfl ?_
                refine ax_topi (nI_add td _) ?_
                refine ax_istore (pc' := 160) rfl (Nat.le_of_ble_eq_true rfl) dX8_year_158 rfl ?_
                refine ax_iinc1 (pc' := 163) rfl rfl (Nat.le_of_ble_eq_true rfl) dX8_year_160 rfl ?_
                refine ax_goto (tgt := 50) dX8_year_163 (by decide) ?_
                have htl2 : (sp_wk S.2.1 rs (d % S.2.1.2.2.1) (d / 4 % S.2.1.2.1) (d / 32 % S.2.1.2.1)).2.2.2 ≤ 13300 := htl
                refine ih (j + 1) _ s3 g3 _ _ _ _ _ (by omega) (by omega) (by rw [h3, hρ]; simp only [ax_up2]) (fun y hy => (hg3 y (Or.inl hy)).trans (hg y hy)) ?_
                rw [hBs, ← hrs]
                exact hL3
              by_cases hB9 : B.1.length < 9
              · refine ax_icmp_ne (pc' := 129) (tgt := 137) dX8_year_126 (by decide) rfl (fun _ => ?_) (fun hz => absurd hz (fun h => by have := (nI_eq (by omega) (by decide)).mp h; omega))
                exact W τ g B.1 (by rw [if_pos hB9]) hYo hB9 hτ hg hY
              · have hBl := hYo.1
                refine ax_icmp_ne (pc' := 129) (tgt := 137) dX8_year_126 (by decide) rfl (fun hz => absurd (by rw [show B.1.length = 9 by omega]) hz) (fun _ => ?_)
                refine ax_aload_n (pc' := 130) rfl dX8_year_129 rfl ?_
                refine ax_sipush (pc' := 133) (v := (nI 418)) ks_418 dX8_year_130 rfl ?_
                refine ax_iconst (pc' := 134) (v := (nI 0)) kc_0 dX8_year_133 rfl ?_
                refine ax_callVG (pc' := 137) lv_X8_227 (m_strikes (p := 418) (r := 0) hMr hY (by decide) hBl (by omega)) M_o rfl rfl (Nat.le_of_ble_eq_true rfl) (Nat.le_of_ble_eq_true rfl) dX8_year_134 rfl (fun r3 s3 hr3 => ?_)
                obtain ⟨rfl, g3, h3, hL3, hg3⟩ := hr3
                exact W s3 g3 (sp_del B.1 0) (by rw [if_neg hB9]) (bk_ok_del hYo (by omega)) (by rw [sp_del_len (by omega)]; omega) (by rw [h3, hτ]; simp only [ax_up2]) (fun y hy => (hg3 y (Or.inl hy)).trans (hg y hy)) hL3
        exact K n 0 0 s1 _ _ _ _ _ _ (Nat.zero_add _) (Nat.le_refl _) g1 (fun y hy => sl_cp_out (by omega)) (hL.mv h9 (fun y hy => sl_cp_in hy))
      · refine ax_callSR (pc' := 31) ls_X8_101 (m_isF (by decide) (by decide) ht) rfl rfl (Nat.le_of_ble_eq_true rfl) (Nat.le_of_ble_eq_true rfl) dX8_year_28 rfl ?_
        refine ax_if_ne (pc' := 34) (tgt := 36) dX8_year_31 (by decide) rfl (fun hz => absurd (kz_0) hz) (fun _ => ?_)
        exact NO _ (by simp [o_year, e1, e2, e3])
    · refine ax_callSR (pc' := 21) ls_X8_101 (m_isF (by decide) (by decide) hu) rfl rfl (Nat.le_of_ble_eq_true rfl) (Nat.le_of_ble_eq_true rfl) dX8_year_18 rfl ?_
      refine ax_if_eq (pc' := 24) (tgt := 34) dX8_year_21 (by decide) rfl (fun _ => ?_) (fun hz => absurd (kz_0) hz)
      exact NO _ (by simp [o_year, e1, e2])
  · refine ax_callSR (pc' := 9) ls_X8_101 (m_isF (by decide) (by decide) hv) rfl rfl (Nat.le_of_ble_eq_true rfl) (Nat.le_of_ble_eq_true rfl) dX8_year_6 rfl ?_
    refine ax_if_eq (pc' := 12) (tgt := 34) dX8_year_9 (by decide) rfl (fun _ => ?_) (fun hz => absurd (kz_0) hz)
    exact NO _ (by simp [o_year, e1])
end MY
