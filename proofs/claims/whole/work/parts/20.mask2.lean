/-! ===== the model's questions, second half ===== -/
theorem sp_fs_is {P : Nat → Bool} {m k s : Nat} (h : sp_fs P m k = some s) : 1 ≤ s ∧ s < k ∧ sp_bits s 9 = m := by
  induction k with
  | zero => cases h
  | succ k ih =>
    simp only [sp_fs] at h
    split at h
    · rename_i s' hs'
      cases h
      obtain ⟨a1, a2, a3⟩ := ih hs'
      exact ⟨a1, by omega, a3⟩
    · split at h
      · rename_i hc
        cases h
        exact ⟨hc.1, by omega, hc.2.1⟩
      · cases h
theorem sp_few_is {P : Nat → Bool} {k s : Nat} (h : sp_few P k = some s) : 1 ≤ s ∧ s < k ∧ sp_bits s 9 ≤ 4 ∧ 1 ≤ sp_bits s 9 := by
  unfold sp_few at h
  split at h
  · rename_i s' hs'
    cases h
    obtain ⟨a1, a2, a3⟩ := sp_fs_is hs'
    omega
  split at h
  · rename_i s' hs'
    cases h
    obtain ⟨a1, a2, a3⟩ := sp_fs_is hs'
    omega
  split at h
  · rename_i s' hs'
    cases h
    obtain ⟨a1, a2, a3⟩ := sp_fs_is hs'
    omega
  · obtain ⟨a1, a2, a3⟩ := sp_fs_is h
    omega
theorem sp_bits_1 : ∀ s, s < 512 → 1 ≤ s → 1 ≤ sp_bits s 9 := by decide +kernel
theorem sp_fs_step (P : Nat → Bool) (m k : Nat) (hk : 1 ≤ k) : sp_fs P m (k + 1) = (sp_fs P m k).or (if sp_bits k 9 = m ∧ P k = true then some k else none) := by
  simp only [sp_fs]
  cases sp_fs P m k with
  | some s => rfl
  | none => simp [hk]
theorem sp_few_or (P : Nat → Bool) (k : Nat) : sp_few P k = (sp_fs P 1 k).or ((sp_fs P 2 k).or ((sp_fs P 3 k).or (sp_fs P 4 k))) := by
  unfold sp_few
  cases sp_fs P 1 k <;> cases sp_fs P 2 k <;> cases sp_fs P 3 k <;> cases sp_fs P 4 k <;> rfl
theorem few_aux {o1 o2 o3 o4 : Option Nat} {n k : Nat} {B : Nat → Nat} {p : Bool} (hn : 1 ≤ n) (h1 : ∀ s, o1 = some s → B s = 1) (h2 : ∀ s, o2 = some s → B s = 2) (h3 : ∀ s, o3 = some s → B s = 3) (h4 : ∀ s, o4 = some s → B s = 4) : (o1.or (if n = 1 ∧ p = true then some k else none)).or ((o2.or (if n = 2 ∧ p = true then some k else none)).or ((o3.or (if n = 3 ∧ p = true then some k else none)).or (o4.or (if n = 4 ∧ p = true then some k else none)))) = if n < 5 ∧ (∀ s, o1.or (o2.or (o3.or o4)) = some s → n < B s) ∧ p = true then some k else o1.or (o2.or (o3.or o4)) := by
  cases p with
  | false => simp
  | true =>
    obtain rfl | rfl | rfl | rfl | h5 : n = 1 ∨ n = 2 ∨ n = 3 ∨ n = 4 ∨ 5 ≤ n := by omega
    · cases o1 <;> cases o2 <;> cases o3 <;> cases o4 <;> simp_all
    · cases o1 <;> cases o2 <;> cases o3 <;> cases o4 <;> simp_all
    · cases o1 <;> cases o2 <;> cases o3 <;> cases o4 <;> simp_all
    · cases o1 <;> cases o2 <;> cases o3 <;> cases o4 <;> simp_all
    · rw [if_neg (fun h => by omega), if_neg (fun h => by omega), if_neg (fun h => by omega), if_neg (fun h => by omega), if_neg (fun h => by omega)]
      simp
/-- the model's step -/
theorem sp_few_step {P : Nat → Bool} {k : Nat} (hk : 1 ≤ k) (h5 : k < 512) : sp_few P (k + 1) = if sp_bits k 9 < 5 ∧ (∀ s, sp_few P k = some s → sp_bits k 9 < sp_bits s 9) ∧ P k = true then some k else sp_few P k := by
  have hb := sp_bits_1 k h5 hk
  rw [sp_few_or P (k + 1), sp_fs_step P 1 k hk, sp_fs_step P 2 k hk, sp_fs_step P 3 k hk, sp_fs_step P 4 k hk, sp_few_or P k]
  exact few_aux (B := fun s => sp_bits s 9) hb (fun s h => (sp_fs_is h).2.2) (fun s h => (sp_fs_is h).2.2) (fun s h => (sp_fs_is h).2.2) (fun s h => (sp_fs_is h).2.2)
section MQ2
variable {σ : ax_S} {S : sp_S}
theorem y_fewest (hx : ms_At σ.1 S) (hS : sp_Ok S) (v u : Int32) : ax_N mX8_fewest 8 0 0 [.ref 56, .int v, .int u] σ (ms_Po σ (o_fewest S v u)) := by
  obtain ⟨ng, nt, nw, ap, bg, wr, f, M_o, hMb, M_slot, hSl, hNew, hTx, hSg⟩ := id hx
  have hM : ml_At σ.1 S.2.1 f := ⟨⟨ng, nt, nw, _, _, _, ap, bg, wr, _, M_o⟩, hMb, M_slot⟩
  have hb := hS.2.1
  have hk := hS.2.2.2.1
  have h9 := hk.1
  have hL := hSl.1
  obtain ⟨l1, l2, l3⟩ := id hL
  refine ax_N.of (ls := [some (.ref 56), some (.int v), some (.int u), none, none, none]) (by decide +kernel) rfl (Nat.le_of_ble_eq_true rfl) ?_
  have NO : ∀ zz, o_fewest S v u = (-1, S) → ax_J (mX8_fewest, 8, 0, 0) 0 0 22 zz [] σ (ms_Po σ (o_fewest S v u)) := by
    intro zz ho
    rw [ho]
    refine ax_iconst (pc' := 23) (v := (-1)) kc_m1 dX8_fewest_22 rfl ?_
    exact ax_iret dX8_fewest_23 rfl (Nat.le_of_ble_eq_true rfl) (Nat.le_of_ble_eq_true rfl) (⟨rfl, hx, ax_fr.rf⟩)
  refine ax_iload_n (pc' := 1) rfl dX8_fewest_0 rfl ?_
  refine ax_i2l (pc' := 2) dX8_fewest_1 rfl ?_
  refine ax_lconst (pc' := 3) (v := lN 0) rfl dX8_fewest_2 rfl ?_
  refine ax_ldc2 (pc' := 6) kl_X8_242 dX8_fewest_3 rfl ?_
  rcases sp_in_cases v (lo := 0) (hi := 99) (by decide) (by decide) with ⟨e, h1, he, rfl, e1⟩ | ⟨hv, e1⟩
  · refine ax_callSR (pc' := 9) ls_X8_101 (m_isT (by decide) (by decide) (nI_le h1 (by omega)) (nI_le he (by decide))) rfl rfl (Nat.le_of_ble_eq_true rfl) (Nat.le_of_ble_eq_true rfl) dX8_fewest_6 rfl ?_
    refine ax_if_eq (pc' := 12) (tgt := 22) dX8_fewest_9 (by decide) rfl (fun hz => absurd hz (kz_1)) (fun _ => ?_)
    refine ax_iload_n (pc' := 13) rfl dX8_fewest_12 rfl ?_
    refine ax_i2l (pc' := 14) dX8_fewest_13 rfl ?_
    refine ax_lconst (pc' := 15) (v := lN 0) rfl dX8_fewest_14 rfl ?_
    refine ax_lconst (pc' := 16) (v := lN 1) rfl dX8_fewest_15 rfl ?_
    rcases sp_in_cases u (lo := 0) (hi := 1) (by decide) (by decide) with ⟨i, h1, hi, rfl, e2⟩ | ⟨hu, e2⟩
    · refine ax_callSR (pc' := 19) ls_X8_101 (m_isT (by decide) (by decide) (nI_le h1 (by omega)) (nI_le hi (by decide))) rfl rfl (Nat.le_of_ble_eq_true rfl) (Nat.le_of_ble_eq_true rfl) dX8_fewest_16 rfl ?_
      refine ax_if_ne (pc' := 22) (tgt := 24) dX8_fewest_19 (by decide) rfl (fun _ => ?_) (fun hz => absurd hz (kz_1))
      refine ax_iconst (pc' := 25) (v := (nI 0)) kc_0 dX8_fewest_24 rfl ?_
      refine ax_istore_n (pc' := 26) rfl (Nat.le_of_ble_eq_true rfl) dX8_fewest_25 rfl ?_
      refine ax_iconst (pc' := 27) (v := (nI 1)) kc_1 dX8_fewest_26 rfl ?_
      refine ax_istore (pc' := 29) rfl (Nat.le_of_ble_eq_true rfl) dX8_fewest_27 rfl ?_
      have hpw : 2 ^ S.2.2.1.1.length ≤ 2 ^ 9 := Nat.pow_le_pow_right (by decide) h9
      have hpw1 : 1 ≤ 2 ^ S.2.2.1.1.length := Nat.one_le_two_pow
      obtain ⟨P, hP⟩ : ∃ P, P = sp_nr S e := ⟨_, rfl⟩
      have K : ∀ m k (z5 : Option Value), k + m = 2 ^ S.2.2.1.1.length → 1 ≤ k → ax_J (mX8_fewest, 8, 0, 0) 0 0 29 [some (.ref 56), some (.int (nI e)), some (.int (nI i)), some (.int (nI ((sp_few P k).getD 0))), some (.int (nI k)), z5] [] σ (ms_Po σ (o_fewest S (nI e) (nI i))) := by
        intro m
        induction m with
        | zero =>
          intro k z5 hk2 hk1
          have hk2 : k = 2 ^ S.2.2.1.1.length := hk2
          have his := fun s => @sp_few_is P k s
          refine ax_iload (pc' := 31) rfl dX8_fewest_29 rfl ?_
          refine ax_iconst (pc' := 32) (v := (nI 1)) kc_1 dX8_fewest_31 rfl ?_
          refine ax_aload_n (pc' := 33) rfl dX8_fewest_32 rfl ?_
          refine ax_getf (pc' := 36) fl_X8_46 M_o rfl dX8_fewest_33 rfl ?_
          refine ax_bipush (pc' := 38) (v := (nI 36)) kb_36 dX8_fewest_36 rfl ?_
          refine ax_iald (pc' := 39) M_slot rfl (by omega) (by first | decide | assumption | omega) dX8_fewest_38 rfl ?_
          refine ax_topi l1 ?_
          refine ax_ishl (pc' := 40) dX8_fewest_39 rfl ?_
          refine ax_topi (sp_shl1 _ (by omega)) ?_
          refine ax_icmp_ge (pc' := 43) (tgt := 108) dX8_fewest_40 (by decide) rfl (fun _ => ?_) (fun hz => absurd (nI_le (by omega) (by omega)) hz)
          refine ax_iload_n (pc' := 109) rfl dX8_fewest_108 rfl ?_
          rw [hk2] at his ⊢
          cases hf : sp_few P (2 ^ S.2.2.1.1.length) with
          | none =>
            refine ax_if_ne (pc' := 112) (tgt := 117) dX8_fewest_109 (by decide) rfl (fun hz => absurd (kz_0) hz) (fun _ => ?_)
            refine ax_bipush (pc' := 114) (v := (-4)) kb_m4 dX8_fewest_112 rfl ?_
            refine ax_goto (tgt := 129) dX8_fewest_114 (by decide) ?_
            exact ax_iret dX8_fewest_129 rfl (Nat.le_of_ble_eq_true rfl) (Nat.le_of_ble_eq_true rfl) (⟨by simp [o_fewest, e1, e2, ← hP, hf], hx, ax_fr.rf⟩)
          | some s =>
            obtain ⟨s1, s2, s3, s4⟩ := his s hf
            refine ax_if_ne (pc' := 112) (tgt := 117) dX8_fewest_109 (by decide) rfl (fun _ => ?_) (fun hz => absurd hz (nI_ne0 s1 (by show s < 2 ^ 31; omega)))
            refine ax_iload_n (pc' := 118) rfl dX8_fewest_117 rfl ?_
            obtain rfl | rfl : i = 0 ∨ i = 1 := by omega
            · refine ax_if_ne (pc' := 121) (tgt := 128) dX8_fewest_118 (by decide) rfl (fun hz => absurd (kz_0) hz) (fun _ => ?_)
              refine ax_iload_n (pc' := 122) rfl dX8_fewest_121 rfl ?_
              refine ax_callSR (pc' := 125) ls_X8_244 (m_bits (s := s) (by omega)) rfl rfl (Nat.le_of_ble_eq_true rfl) (Nat.le_of_ble_eq_true rfl) dX8_fewest_122 rfl ?_
              refine ax_goto (tgt := 129) dX8_fewest_125 (by decide) ?_
              exact ax_iret dX8_fewest_129 rfl (Nat.le_of_ble_eq_true rfl) (Nat.le_of_ble_eq_true rfl) (⟨by simp [o_fewest, e1, e2, ← hP, hf], hx, ax_fr.rf⟩)
            · refine ax_if_ne (pc' := 121) (tgt := 128) dX8_fewest_118 (by decide) rfl (fun _ => ?_) (fun hz => absurd hz (kz_1))
              refine ax_iload_n (pc' := 129) rfl dX8_fewest_128 rfl ?_
              exact ax_iret dX8_fewest_129 rfl (Nat.le_of_ble_eq_true rfl) (Nat.le_of_ble_eq_true rfl) (⟨by simp [o_fewest, e1, e2, ← hP, hf], hx, ax_fr.rf⟩)
        | succ m ih =>
          intro k z5 hk2 hk1
          have hstep := sp_few_step (P := P) hk1 (by omega)
          have hb9 := sp_bits_9 k (by omega)
          obtain ⟨o, ho⟩ : ∃ o, o = sp_few P k := ⟨_, rfl⟩
          have his := fun s (h : o = some s) => @sp_few_is P k s (ho.symm.trans h)
          rw [← ho] at hstep ⊢
          refine ax_iload (pc' := 31) rfl dX8_fewest_29 rfl ?_
          refine ax_iconst (pc' := 32) (v := (nI 1)) kc_1 dX8_fewest_31 rfl ?_
          refine ax_aload_n (pc' := 33) rfl dX8_fewest_32 rfl ?_
          refine ax_getf (pc' := 36) fl_X8_46 M_o rfl dX8_fewest_33 rfl ?_
          refine ax_bipush (pc' := 38) (v := (nI 36)) kb_36 dX8_fewest_36 rfl ?_
          refine ax_iald (pc' := 39) M_slot rfl (by omega) (by first | decide | assumption | omega) dX8_fewest_38 rfl ?_
          refine ax_topi l1 ?_
          refine ax_ishl (pc' := 40) dX8_fewest_39 rfl ?_
          refine ax_topi (sp_shl1 _ (by omega)) ?_
          refine ax_icmp_ge (pc' := 43) (tgt := 108) dX8_fewest_40 (by decide) rfl (fun hz => absurd hz (nI_ge (by omega) (by omega))) (fun _ => ?_)
          refine ax_iload (pc' := 45) rfl dX8_fewest_43 rfl ?_
          refine ax_callSR (pc' := 48) ls_X8_244 (m_bits (s := k) (by omega)) rfl rfl (Nat.le_of_ble_eq_true rfl) (Nat.le_of_ble_eq_true rfl) dX8_fewest_45 rfl ?_
          refine ax_iconst (pc' := 49) (v := (nI 5)) kc_5 dX8_fewest_48 rfl ?_
          have N : ¬ (sp_bits k 9 < 5 ∧ (∀ s, o = some s → sp_bits k 9 < sp_bits s 9) ∧ P k = true) → ax_J (mX8_fewest, 8, 0, 0) 0 0 87 [some (.ref 56), some (.int (nI e)), some (.int (nI i)), some (.int (nI (o.getD 0))), some (.int (nI k)), z5] [] σ (ms_Po σ (o_fewest S (nI e) (nI i))) := by
            intro hn
            rw [if_neg hn] at hstep
            refine ax_iconst (pc' := 88) (v := (nI 0)) kc_0 dX8_fewest_87 rfl ?_
            refine ax_istore (pc' := 90) rfl (Nat.le_of_ble_eq_true rfl) dX8_fewest_88 rfl ?_
            refine ax_iload (pc' := 92) rfl dX8_fewest_90 rfl ?_
            refine ax_if_eq (pc' := 95) (tgt := 100) dX8_fewest_92 (by decide) rfl (fun _ => ?_) (fun hz => absurd (kz_0) hz)
            refine ax_iload_n (pc' := 101) rfl dX8_fewest_100 rfl ?_
            refine ax_istore_n (pc' := 102) rfl (Nat.le_of_ble_eq_true rfl) dX8_fewest_101 rfl ?_
            refine ax_iinc1 (pc' := 105) rfl rfl (Nat.le_of_ble_eq_true rfl) dX8_fewest_102 rfl ?_
            refine ax_goto (tgt := 29) dX8_fewest_105 (by decide) ?_
            have := ih (k + 1) (some (.int (nI 0))) (by omega) (by omega)
            rw [hstep] at this
            exact this
          have T : sp_bits k 9 < 5 → (∀ s, o = some s → sp_bits k 9 < sp_bits s 9) → ax_J (mX8_fewest, 8, 0, 0) 0 0 68 [some (.ref 56), some (.int (nI e)), some (.int (nI i)), some (.int (nI (o.getD 0))), some (.int (nI k)), z5] [] σ (ms_Po σ (o_fewest S (nI e) (nI i))) := by
            intro t1 t2
            refine ax_aload_n (pc' := 69) rfl dX8_fewest_68 rfl ?_
            refine ax_aload_n (pc' := 70) rfl dX8_fewest_69 rfl ?_
            refine ax_iconst (pc' := 71) (v := (nI 0)) kc_0 dX8_fewest_70 rfl ?_
            refine ax_iload (pc' := 73) rfl dX8_fewest_71 rfl ?_
            refine ax_callVR (pc' := 76) lv_X8_233 (m_meanOf (p := 0) (ms := k) hM hb hL (by decide) hk (by omega)) M_o rfl rfl (Nat.le_of_ble_eq_true rfl) (Nat.le_of_ble_eq_true rfl) dX8_fewest_73 rfl ?_
            refine ax_iload_n (pc' := 77) rfl dX8_fewest_76 rfl ?_
            refine ax_callVR (pc' := 80) lv_X8_247 (m_isNear hM hb (fun m hm => Nat.le_trans (sp_mean_le (fun i m hi h => sp_sel_le hb hk hi h) hm) (by decide)) he) M_o rfl rfl (Nat.le_of_ble_eq_true rfl) (Nat.le_of_ble_eq_true rfl) dX8_fewest_77 rfl ?_
            by_cases hp : P k = true
            · have hp2 : sp_near S.2.1.1 e (sp_mean (sp_sel S.2.1 S.2.2.1.1 k 0) S.2.2.1.1.length) = true := by rw [hP] at hp; exact hp
              rw [if_pos ⟨t1, t2, hp⟩] at hstep
              refine ax_if_eq (pc' := 83) (tgt := 87) dX8_fewest_80 (by decide) rfl (fun hz => absurd hz (by rw [hp2]; exact kz_1)) (fun _ => ?_)
              refine ax_iconst (pc' := 84) (v := (nI 1)) kc_1 dX8_fewest_83 rfl ?_
              refine ax_goto (tgt := 88) dX8_fewest_84 (by decide) ?_
              refine ax_istore (pc' := 90) rfl (Nat.le_of_ble_eq_true rfl) dX8_fewest_88 rfl ?_
              refine ax_iload (pc' := 92) rfl dX8_fewest_90 rfl ?_
              refine ax_if_eq (pc' := 95) (tgt := 100) dX8_fewest_92 (by decide) rfl (fun hz => absurd hz (kz_1)) (fun _ => ?_)
              refine ax_iload (pc' := 97) rfl dX8_fewest_95 rfl ?_
              refine ax_goto (tgt := 101) dX8_fewest_97 (by decide) ?_
              refine ax_istore_n (pc' := 102) rfl (Nat.le_of_ble_eq_true rfl) dX8_fewest_101 rfl ?_
              refine ax_iinc1 (pc' := 105) rfl rfl (Nat.le_of_ble_eq_true rfl) dX8_fewest_102 rfl ?_
              refine ax_goto (tgt := 29) dX8_fewest_105 (by decide) ?_
              have := ih (k + 1) (some (.int (nI 1))) (by omega) (by omega)
              rw [hstep] at this
              exact this
            · have hp2 : sp_near S.2.1.1 e (sp_mean (sp_sel S.2.1 S.2.2.1.1 k 0) S.2.2.1.1.length) = false := by rw [hP] at hp; simpa [sp_nr] using hp
              refine ax_if_eq (pc' := 83) (tgt := 87) dX8_fewest_80 (by decide) rfl (fun _ => ?_) (fun hz => absurd (by rw [hp2]; exact kz_0) hz)
              exact N (fun h => hp h.2.2)
          by_cases t1 : sp_bits k 9 < 5
          · refine ax_icmp_ge (pc' := 52) (tgt := 87) dX8_fewest_49 (by decide) rfl (fun hz => absurd hz (nI_ge t1 (by decide))) (fun _ => ?_)
            refine ax_iload_n (pc' := 53) rfl dX8_fewest_52 rfl ?_
            cases o with
            | none =>
              refine ax_if_eq (pc' := 56) (tgt := 68) dX8_fewest_53 (by decide) rfl (fun _ => ?_) (fun hz => absurd (kz_0) hz)
              exact T t1 (fun s h => by cases h)
            | some s =>
              obtain ⟨s1, s2, s3, s4⟩ := his s rfl
              refine ax_if_eq (pc' := 56) (tgt := 68) dX8_fewest_53 (by decide) rfl (fun hz => absurd hz (nI_ne0 s1 (by show s < 2 ^ 31; omega))) (fun _ => ?_)
              refine ax_iload (pc' := 58) rfl dX8_fewest_56 rfl ?_
              refine ax_callSR (pc' := 61) ls_X8_244 (m_bits (s := k) (by omega)) rfl rfl (Nat.le_of_ble_eq_true rfl) (Nat.le_of_ble_eq_true rfl) dX8_fewest_58 rfl ?_
              refine ax_iload_n (pc' := 62) rfl dX8_fewest_61 rfl ?_
              refine ax_callSR (pc' := 65) ls_X8_244 (m_bits (s := s) (by omega)) rfl rfl (Nat.le_of_ble_eq_true rfl) (Nat.le_of_ble_eq_true rfl) dX8_fewest_62 rfl ?_
              by_cases t2 : sp_bits k 9 < sp_bits s 9
              · refine ax_icmp_ge (pc' := 68) (tgt := 87) dX8_fewest_65 (by decide) rfl (fun hz => absurd hz (nI_ge t2 (by omega))) (fun _ => ?_)
                exact T t1 (fun s' h => by cases h; exact t2)
              · refine ax_icmp_ge (pc' := 68) (tgt := 87) dX8_fewest_65 (by decide) rfl (fun _ => ?_) (fun hz => absurd (nI_le (by omega) (by omega)) hz)
                exact N (fun h => t2 (h.2.1 s rfl))
          · refine ax_icmp_ge (pc' := 52) (tgt := 87) dX8_fewest_49 (by decide) rfl (fun _ => ?_) (fun hz => absurd (nI_le (by omega) (by omega)) hz)
            exact N (fun h => t1 h.1)
      have := K (2 ^ S.2.2.1.1.length - 1) 1 none (by omega) (by decide)
      rw [show sp_few P 1 = none from rfl] at this
      exact this
    · refine ax_callSR (pc' := 19) ls_X8_101 (m_isF (by decide) (by decide) hu) rfl rfl (Nat.le_of_ble_eq_true rfl) (Nat.le_of_ble_eq_true rfl) dX8_fewest_16 rfl ?_
      refine ax_if_ne (pc' := 22) (tgt := 24) dX8_fewest_19 (by decide) rfl (fun hz => absurd (kz_0) hz) (fun _ => ?_)
      exact NO _ (by simp [o_fewest, e1, e2])
  · refine ax_callSR (pc' := 9) ls_X8_101 (m_isF (by decide) (by decide) hv) rfl rfl (Nat.le_of_ble_eq_true rfl) (Nat.le_of_ble_eq_true rfl) dX8_fewest_6 rfl ?_
    refine ax_if_eq (pc' := 12) (tgt := 22) dX8_fewest_9 (by decide) rfl (fun _ => ?_) (fun hz => absurd (kz_0) hz)
    exact NO _ (by simp [o_fewest, e1])
theorem m_offBy {f : Nat → Int32} {b : sp_B} {rs : List sp_rep} {dy r er : Nat} (hM : ml_At σ.1 b f) (hb : sp_ok b) (hL : sl_At f 0 rs dy) (hk : bk_ok b rs) (hr : r < rs.length) (her : er < 8) : ax_R mX8_offBy 3 [.ref 56, .int (nI r), .int (nI er)] σ (.int (sp_en ((sp_gw b (sp_at rs r) er).map (fun g => sp_far g b.1)))) := by
  obtain ⟨⟨ng, nt, nw, ac, kp, ln, ap, bg, wr, se, M_o⟩, ⟨fl, fn, fb, fk, fp, fu, M_north, M_lean, M_bend, M_sort, M_pace, M_unit, r1, r2, r3⟩, M_slot⟩ := id hM
  have h9 := hk.1
  have h4 := hb.2.2.1
  have h6 := hb.2.1
  have hg := hb.1.2
  obtain ⟨e0, e1, e2, e3⟩ := hL.2.2 r hr
  obtain ⟨q0, q1, q2, q3⟩ := hk.2 r hr
  have hgl := fun g => @sp_gw_le b (sp_at rs r) er g hb q3
  have hTB := m_toldBy (p := 0) hM hL (by decide) hk hr
  obtain ⟨⟨w, a, c, n⟩, hq⟩ : ∃ q, sp_at rs r = q := ⟨_, rfl⟩
  rw [hq] at e0 e1 e2 e3 q0 q1 q2 q3 hgl hTB ⊢
  dsimp only at e0 e1 e2 e3 q0 q1 q2 q3 hTB
  obtain ⟨k1, k2, k3, k4, k5⟩ := hb.2.2.2.2.2 w
  obtain ⟨u1, u2, u3⟩ := r3 w q0
  have hsl := sp_str_le hb a c
  have hrl := sp_road_le hb a c
  have hLa := (hb.2.2.2.1 a).1
  have hLc := (hb.2.2.2.1 c).1
  have hd := sp_deg_le hb a c
  have hfr : sp_far (sp_L b a) (sp_L b c) ≤ 80 := sp_far_le hLa hLc
  refine ax_N.of (ls := [some (.ref 56), some (.int (nI r)), some (.int (nI er)), none, none, none, none, none, none, none]) (by decide +kernel) rfl (Nat.le_of_ble_eq_true rfl) ?_
  refine ax_aload_n (pc' := 1) rfl dX8_offBy_0 rfl ?_
  refine ax_getf (pc' := 4) fl_X8_46 M_o rfl dX8_offBy_1 rfl ?_
  refine ax_iconst (pc' := 5) (v := (nI 4)) kc_4 dX8_offBy_4 rfl ?_
  refine ax_iload_n (pc' := 6) rfl dX8_offBy_5 rfl ?_
  refine ax_imul (pc' := 7) dX8_offBy_6 rfl ?_
  refine ax_topi (v' := nI (0 + 4 * r)) (by rw [pk_mul, Nat.zero_add]) ?_
  refine ax_iald (pc' := 8) M_slot rfl (by omega) (by first | decide | assumption | omega) dX8_offBy_7 rfl ?_
  refine ax_topi e0 ?_
  refine ax_istore_n (pc' := 9) rfl (Nat.le_of_ble_eq_true rfl) dX8_offBy_8 rfl ?_
  refine ax_aload_n (pc' := 10) rfl dX8_offBy_9 rfl ?_
  refine ax_getf (pc' := 13) fl_X8_46 M_o rfl dX8_offBy_10 rfl ?_
  refine ax_iconst (pc' := 14) (v := (nI 4)) kc_4 dX8_offBy_13 rfl ?_
  refine ax_iload_n (pc' := 15) rfl dX8_offBy_14 rfl ?_
  refine ax_imul (pc' := 16) dX8_offBy_15 rfl ?_
  refine ax_iconst (pc' := 17) (v := (nI 1)) kc_1 dX8_offBy_16 rfl ?_
  refine ax_iadd (pc' := 18) dX8_offBy_17 rfl ?_
  refine ax_topi (v' := nI (0 + 4 * r + 1)) (by rw [pk_mul, nI_add, Nat.zero_add]) ?_
  refine ax_iald (pc' := 19) M_slot rfl (by omega) (by first | decide | assumption | omega) dX8_offBy_18 rfl ?_
  refine ax_topi e1 ?_
  refine ax_istore (pc' := 21) rfl (Nat.le_of_ble_eq_true rfl) dX8_offBy_19 rfl ?_
  refine ax_aload_n (pc' := 22) rfl dX8_offBy_21 rfl ?_
  refine ax_getf (pc' := 25) fl_X8_46 M_o rfl dX8_offBy_22 rfl ?_
  refine ax_iconst (pc' := 26) (v := (nI 4)) kc_4 dX8_offBy_25 rfl ?_
  refine ax_iload_n (pc' := 27) rfl dX8_offBy_26 rfl ?_
  refine ax_imul (pc' := 28) dX8_offBy_27 rfl ?_
  refine ax_iconst (pc' := 29) (v := (nI 2)) kc_2 dX8_offBy_28 rfl ?_
  refine ax_iadd (pc' := 30) dX8_offBy_29 rfl ?_
  refine ax_topi (v' := nI (0 + 4 * r + 2)) (by rw [pk_mul, nI_add, Nat.zero_add]) ?_
  refine ax_iald (pc' := 31) M_slot rfl (by omega) (by first | decide | assumption | omega) dX8_offBy_30 rfl ?_
  refine ax_topi e2 ?_
  refine ax_istore (pc' := 33) rfl (Nat.le_of_ble_eq_true rfl) dX8_offBy_31 rfl ?_
  refine ax_iload_n (pc' := 34) rfl dX8_offBy_33 rfl ?_
  refine ax_iconst (pc' := 35) (v := (nI 0)) kc_0 dX8_offBy_34 rfl ?_
  refine ax_callSR (pc' := 38) ls_X8_230 (m_has (s := er) (k := 0) (by omega) (by decide)) rfl rfl (Nat.le_of_ble_eq_true rfl) (Nat.le_of_ble_eq_true rfl) dX8_offBy_35 rfl ?_
  have J1 : ∀ m, m ≤ 2000 → m = (if sp_has er 0 then sp_str b a c else sp_road b a c) → ax_J (mX8_offBy, 3, 0, 0) 0 0 60 [some (.ref 56), some (.int (nI r)), some (.int (nI er)), some (.int (nI w)), some (.int (nI a)), some (.int (nI c)), none, none, none, none] [.int (nI m)] σ (fun r' σ' => r' = some (.int (sp_en ((sp_gw b (w, a, c, n) er).map (fun g => sp_far g b.1)))) ∧ σ' = σ) := by
    intro m hm hmm
    refine ax_istore (pc' := 62) rfl (Nat.le_of_ble_eq_true rfl) dX8_offBy_60 rfl ?_
    refine ax_iload_n (pc' := 63) rfl dX8_offBy_62 rfl ?_
    refine ax_iconst (pc' := 64) (v := (nI 2)) kc_2 dX8_offBy_63 rfl ?_
    refine ax_callSR (pc' := 67) ls_X8_230 (m_has (s := er) (k := 2) (by omega) (by decide)) rfl rfl (Nat.le_of_ble_eq_true rfl) (Nat.le_of_ble_eq_true rfl) dX8_offBy_64 rfl ?_
    have J2 : ∀ kd, kd ≤ 3 → kd = (if sp_has er 2 then 0 else sp_K b w) → ax_J (mX8_offBy, 3, 0, 0) 0 0 80 [some (.ref 56), some (.int (nI r)), some (.int (nI er)), some (.int (nI w)), some (.int (nI a)), some (.int (nI c)), some (.int (nI m)), none, none, none] [.int (nI kd)] σ (fun r' σ' => r' = some (.int (sp_en ((sp_gw b (w, a, c, n) er).map (fun g => sp_far g b.1)))) ∧ σ' = σ) := by
      intro kd hkd hkk
      refine ax_istore (pc' := 82) rfl (Nat.le_of_ble_eq_true rfl) dX8_offBy_80 rfl ?_
      refine ax_iload (pc' := 84) rfl dX8_offBy_82 rfl ?_
      refine ax_iconst (pc' := 85) (v := (nI 3)) kc_3 dX8_offBy_84 rfl ?_
      have J3 : ∀ s, s ≤ 13300 → s = sp_sw b (w, a, c, n) er → ax_J (mX8_offBy, 3, 0, 0) 0 0 110 [some (.ref 56), some (.int (nI r)), some (.int (nI er)), some (.int (nI w)), some (.int (nI a)), some (.int (nI c)), some (.int (nI m)), some (.int (nI kd)), none, none] [.int (nI s)] σ (fun r' σ' => r' = some (.int (sp_en ((sp_gw b (w, a, c, n) er).map (fun g => sp_far g b.1)))) ∧ σ' = σ) := by
        intro s hs hss
        refine ax_istore (pc' := 112) rfl (Nat.le_of_ble_eq_true rfl) dX8_offBy_110 rfl ?_
        refine ax_aload_n (pc' := 113) rfl dX8_offBy_112 rfl ?_
        refine ax_iload (pc' := 115) rfl dX8_offBy_113 rfl ?_
        refine ax_aload_n (pc' := 116) rfl dX8_offBy_115 rfl ?_
        refine ax_getf (pc' := 119) fl_X8_25 M_o rfl dX8_offBy_116 rfl ?_
        refine ax_iload_n (pc' := 120) rfl dX8_offBy_119 rfl ?_
        refine ax_iald (pc' := 121) M_unit rfl (by omega) (by first | decide | assumption | omega) dX8_offBy_120 rfl ?_
        refine ax_topi u3 ?_
        refine ax_iload_n (pc' := 122) rfl dX8_offBy_121 rfl ?_
        refine ax_iconst (pc' := 123) (v := (nI 1)) kc_1 dX8_offBy_122 rfl ?_
        refine ax_callSR (pc' := 126) ls_X8_230 (m_has (s := er) (k := 1) (by omega) (by decide)) rfl rfl (Nat.le_of_ble_eq_true rfl) (Nat.le_of_ble_eq_true rfl) dX8_offBy_123 rfl ?_
        have J4 : ∀ dg, dg ≤ 1000 → dg = (if sp_has er 1 then sp_far (sp_L b a) (sp_L b c) else sp_deg b a c) → ax_J (mX8_offBy, 3, 0, 0) 0 0 157 [some (.ref 56), some (.int (nI r)), some (.int (nI er)), some (.int (nI w)), some (.int (nI a)), some (.int (nI c)), some (.int (nI m)), some (.int (nI kd)), some (.int (nI s)), none] [.int (nI dg), .int (nI (sp_U b w)), .int (nI s), .ref 56] σ (fun r' σ' => r' = some (.int (sp_en ((sp_gw b (w, a, c, n) er).map (fun g => sp_far g b.1)))) ∧ σ' = σ) := by
          intro dg hdg hdd
          have hgw : sp_go s (sp_U b w) dg = sp_gw b (w, a, c, n) er := by rw [hss, hdd]; rfl
          refine ax_callVR (pc' := 160) lv_X8_200 (m_girthOf hs k5 hdg (sp_degv hdg)) M_o rfl rfl (Nat.le_of_ble_eq_true rfl) (Nat.le_of_ble_eq_true rfl) dX8_offBy_157 rfl ?_
          rw [hgw]
          refine ax_istore (pc' := 162) rfl (Nat.le_of_ble_eq_true rfl) dX8_offBy_160 rfl ?_
          refine ax_iload (pc' := 164) rfl dX8_offBy_162 rfl ?_
          cases hgv : sp_gw b (w, a, c, n) er with
          | none =>
            refine ax_if_ge (pc' := 167) (tgt := 172) dX8_offBy_164 (by decide) rfl (fun hz => absurd hz ((by decide))) (fun _ => ?_)
            refine ax_bipush (pc' := 169) (v := (-4)) kb_m4 dX8_offBy_167 rfl ?_
            refine ax_goto (tgt := 181) dX8_offBy_169 (by decide) ?_
            exact ax_iret dX8_offBy_181 rfl (Nat.le_of_ble_eq_true rfl) (Nat.le_of_ble_eq_true rfl) (⟨rfl, rfl⟩)
          | some g =>
            have hgle := hgl g hgv
            refine ax_if_ge (pc' := 167) (tgt := 172) dX8_offBy_164 (by decide) rfl (fun _ => ?_) (fun hz => absurd (nI_pos' (by omega)) hz)
            refine ax_iload (pc' := 174) rfl dX8_offBy_172 rfl ?_
            refine ax_aload_n (pc' := 175) rfl dX8_offBy_174 rfl ?_
            refine ax_getf (pc' := 178) fl_X8_92 M_o rfl dX8_offBy_175 rfl ?_
            refine ax_callSR (pc' := 181) ls_X8_161 (m_apart (x := g) (by omega) (by omega)) rfl rfl (Nat.le_of_ble_eq_true rfl) (Nat.le_of_ble_eq_true rfl) dX8_offBy_178 rfl ?_
            exact ax_iret dX8_offBy_181 rfl (Nat.le_of_ble_eq_true rfl) (Nat.le_of_ble_eq_true rfl) (⟨rfl, rfl⟩)
        by_cases b1 : sp_has er 1 = true
        · refine ax_if_eq (pc' := 129) (tgt := 149) dX8_offBy_126 (by decide) rfl (fun hz => absurd hz (by rw [b1]; exact kz_1)) (fun _ => ?_)
          refine ax_aload_n (pc' := 130) rfl dX8_offBy_129 rfl ?_
          refine ax_getf (pc' := 133) fl_X8_7 M_o rfl dX8_offBy_130 rfl ?_
          refine ax_iload (pc' := 135) rfl dX8_offBy_133 rfl ?_
          refine ax_iald (pc' := 136) M_north rfl (by omega) (by first | decide | assumption | omega) dX8_offBy_135 rfl ?_
          refine ax_topi (r1 a q1).1 ?_
          refine ax_aload_n (pc' := 137) rfl dX8_offBy_136 rfl ?_
          refine ax_getf (pc' := 140) fl_X8_7 M_o rfl dX8_offBy_137 rfl ?_
          refine ax_iload (pc' := 142) rfl dX8_offBy_140 rfl ?_
          refine ax_iald (pc' := 143) M_north rfl (by omega) (by first | decide | assumption | omega) dX8_offBy_142 rfl ?_
          refine ax_topi (r1 c q2).1 ?_
          refine ax_callSR (pc' := 146) ls_X8_161 (m_apart (by omega) (by omega)) rfl rfl (Nat.le_of_ble_eq_true rfl) (Nat.le_of_ble_eq_true rfl) dX8_offBy_143 rfl ?_
          refine ax_goto (tgt := 157) dX8_offBy_146 (by decide) ?_
          exact J4 _ (by omega) (by rw [if_pos b1])
        · refine ax_if_eq (pc' := 129) (tgt := 149) dX8_offBy_126 (by decide) rfl (fun _ => ?_) (fun hz => absurd (by rw [show sp_has er 1 = false by simpa using b1]; exact kz_0) hz)
          refine ax_aload_n (pc' := 150) rfl dX8_offBy_149 rfl ?_
          refine ax_iload (pc' := 152) rfl dX8_offBy_150 rfl ?_
          refine ax_iload (pc' := 154) rfl dX8_offBy_152 rfl ?_
          refine ax_callVR (pc' := 157) lv_X8_180 (m_degrees hM hb q1 q2) M_o rfl rfl (Nat.le_of_ble_eq_true rfl) (Nat.le_of_ble_eq_true rfl) dX8_offBy_154 rfl ?_
          exact J4 _ (by omega) (by rw [if_neg b1])
      have hsw : sp_sw b (w, a, c, n) er = if kd = 3 then n else sp_tells kd (sp_U b w) m := by rw [hkk, hmm]; rfl
      by_cases c3 : kd = 3
      · rw [if_pos c3] at hsw
        refine ax_icmp_ne (pc' := 88) (tgt := 97) dX8_offBy_85 (by decide) rfl (fun hz => absurd (by rw [c3]) hz) (fun _ => ?_)
        refine ax_aload_n (pc' := 89) rfl dX8_offBy_88 rfl ?_
        refine ax_iconst (pc' := 90) (v := (nI 0)) kc_0 dX8_offBy_89 rfl ?_
        refine ax_iload_n (pc' := 91) rfl dX8_offBy_90 rfl ?_
        refine ax_callVR (pc' := 94) lv_X8_194 (hTB) M_o rfl rfl (Nat.le_of_ble_eq_true rfl) (Nat.le_of_ble_eq_true rfl) dX8_offBy_91 rfl ?_
        refine ax_goto (tgt := 110) dX8_offBy_94 (by decide) ?_
        exact J3 n q3 hsw.symm
      · rw [if_neg c3] at hsw
        refine ax_icmp_ne (pc' := 88) (tgt := 97) dX8_offBy_85 (by decide) rfl (fun _ => ?_) (fun hz => absurd hz (fun h => c3 ((nI_eq (by omega) (by omega)).mp h)))
        refine ax_iload (pc' := 99) rfl dX8_offBy_97 rfl ?_
        refine ax_iload (pc' := 101) rfl dX8_offBy_99 rfl ?_
        refine ax_aload_n (pc' := 102) rfl dX8_offBy_101 rfl ?_
        refine ax_getf (pc' := 105) fl_X8_25 M_o rfl dX8_offBy_102 rfl ?_
        refine ax_iload_n (pc' := 106) rfl dX8_offBy_105 rfl ?_
        refine ax_iald (pc' := 107) M_unit rfl (by omega) (by first | decide | assumption | omega) dX8_offBy_106 rfl ?_
        refine ax_topi u3 ?_
        refine ax_callSR (pc' := 110) ls_X8_190 (m_tells hkd (by omega) k5 hm) rfl rfl (Nat.le_of_ble_eq_true rfl) (Nat.le_of_ble_eq_true rfl) dX8_offBy_107 rfl ?_
        exact J3 _ (by rw [← hsw]; exact sp_sw_le hb q3) hsw.symm
    by_cases b2 : sp_has er 2 = true
    · refine ax_if_eq (pc' := 70) (tgt := 74) dX8_offBy_67 (by decide) rfl (fun hz => absurd hz (by rw [b2]; exact kz_1)) (fun _ => ?_)
      refine ax_iconst (pc' := 71) (v := (nI 0)) kc_0 dX8_offBy_70 rfl ?_
      refine ax_goto (tgt := 80) dX8_offBy_71 (by decide) ?_
      exact J2 0 (by decide) (by rw [if_pos b2])
    · refine ax_if_eq (pc' := 70) (tgt := 74) dX8_offBy_67 (by decide) rfl (fun _ => ?_) (fun hz => absurd (by rw [show sp_has er 2 = false by simpa using b2]; exact kz_0) hz)
      refine ax_aload_n (pc' := 75) rfl dX8_offBy_74 rfl ?_
      refine ax_getf (pc' := 78) fl_X8_19 M_o rfl dX8_offBy_75 rfl ?_
      refine ax_iload_n (pc' := 79) rfl dX8_offBy_78 rfl ?_
      refine ax_iald (pc' := 80) M_sort rfl (by omega) (by first | decide | assumption | omega) dX8_offBy_79 rfl ?_
      refine ax_topi u1 ?_
      exact J2 _ k1 (by rw [if_neg b2])
  by_cases b0 : sp_has er 0 = true
  · refine ax_if_eq (pc' := 41) (tgt := 52) dX8_offBy_38 (by decide) rfl (fun hz => absurd hz (by rw [b0]; exact kz_1)) (fun _ => ?_)
    refine ax_aload_n (pc' := 42) rfl dX8_offBy_41 rfl ?_
    refine ax_iload (pc' := 44) rfl dX8_offBy_42 rfl ?_
    refine ax_iload (pc' := 46) rfl dX8_offBy_44 rfl ?_
    refine ax_callVR (pc' := 49) lv_X8_164 (m_straight hM hb q1 q2) M_o rfl rfl (Nat.le_of_ble_eq_true rfl) (Nat.le_of_ble_eq_true rfl) dX8_offBy_46 rfl ?_
    refine ax_goto (tgt := 60) dX8_offBy_49 (by decide) ?_
    exact J1 _ (by omega) (by rw [if_pos b0])
  · refine ax_if_eq (pc' := 41) (tgt := 52) dX8_offBy_38 (by decide) rfl (fun _ => ?_) (fun hz => absurd (by rw [show sp_has er 0 = false by simpa using b0]; exact kz_0) hz)
    refine ax_aload_n (pc' := 53) rfl dX8_offBy_52 rfl ?_
    refine ax_iload (pc' := 55) rfl dX8_offBy_53 rfl ?_
    refine ax_iload (pc' := 57) rfl dX8_offBy_55 rfl ?_
    refine ax_callVR (pc' := 60) lv_X8_177 (m_road hM hb q1 q2) M_o rfl rfl (Nat.le_of_ble_eq_true rfl) (Nat.le_of_ble_eq_true rfl) dX8_offBy_57 rfl ?_
    exact J1 _ (by omega) (by rw [if_neg b0])
theorem or_0 (x : Int32) : x ||| nI 0 = x := by
  show x ||| 0 = x
  exact Int32.or_zero
theorem y_cancel (hx : ms_At σ.1 S) (hS : sp_Ok S) (v u : Int32) : ax_N mX8_cancel 8 0 0 [.ref 56, .int v, .int u] σ (ms_Po σ (o_cancel S v u)) := by
  obtain ⟨ng, nt, nw, ap, bg, wr, f, M_o, hMb, M_slot, hSl, hNew, hTx, hSg⟩ := id hx
  have hM : ml_At σ.1 S.2.1 f := ⟨⟨ng, nt, nw, _, _, _, ap, bg, wr, _, M_o⟩, hMb, M_slot⟩
  have hb := hS.2.1
  have hk := hS.2.2.2.1
  have h9 := hk.1
  have hL := hSl.1
  have hg := hb.1.2
  refine ax_N.of (ls := [some (.ref 56), some (.int v), some (.int u), none, none, none, none, none]) (by decide +kernel) rfl (Nat.le_of_ble_eq_true rfl) ?_
  have NO : ∀ zz, o_cancel S v u = (-1, S) → ax_J (mX8_cancel, 8, 0, 0) 0 0 18 zz [] σ (ms_Po σ (o_cancel S v u)) := by
    intro zz ho
    rw [ho]
    refine ax_iconst (pc' := 19) (v := (-1)) kc_m1 dX8_cancel_18 rfl ?_
    exact ax_iret dX8_cancel_19 rfl (Nat.le_of_ble_eq_true rfl) (Nat.le_of_ble_eq_true rfl) (⟨rfl, hx, ax_fr.rf⟩)
  refine ax_aload_n (pc' := 1) rfl dX8_cancel_0 rfl ?_
  refine ax_iload_n (pc' := 2) rfl dX8_cancel_1 rfl ?_
  rcases sp_ix_cases v (n := S.2.2.1.1.length) (by omega) with ⟨r, hr, rfl, e1⟩ | ⟨hv, e1⟩
  · refine ax_callVR (pc' := 5) lv_X8_203 (m_isReportT hM hL h9 hr) M_o rfl rfl (Nat.le_of_ble_eq_true rfl) (Nat.le_of_ble_eq_true rfl) dX8_cancel_2 rfl ?_
    refine ax_if_eq (pc' := 8) (tgt := 18) dX8_cancel_5 (by decide) rfl (fun hz => absurd hz (kz_1)) (fun _ => ?_)
    refine ax_iload_n (pc' := 9) rfl dX8_cancel_8 rfl ?_
    refine ax_i2l (pc' := 10) dX8_cancel_9 rfl ?_
    refine ax_lconst (pc' := 11) (v := lN 0) rfl dX8_cancel_10 rfl ?_
    refine ax_lconst (pc' := 12) (v := lN 1) rfl dX8_cancel_11 rfl ?_
    rcases sp_in_cases u (lo := 0) (hi := 1) (by decide) (by decide) with ⟨i, h1, hi, rfl, e2⟩ | ⟨hu, e2⟩
    · obtain ⟨-, -, -, q3⟩ := hk.2 r hr
      refine ax_callSR (pc' := 15) ls_X8_101 (m_isT (by decide) (by decide) (nI_le h1 (by omega)) (nI_le hi (by decide))) rfl rfl (Nat.le_of_ble_eq_true rfl) (Nat.le_of_ble_eq_true rfl) dX8_cancel_12 rfl ?_
      refine ax_if_ne (pc' := 18) (tgt := 20) dX8_cancel_15 (by decide) rfl (fun _ => ?_) (fun hz => absurd hz (kz_1))
      refine ax_aload_n (pc' := 21) rfl dX8_cancel_20 rfl ?_
      refine ax_iconst (pc' := 22) (v := (nI 0)) kc_0 dX8_cancel_21 rfl ?_
      refine ax_iload_n (pc' := 23) rfl dX8_cancel_22 rfl ?_
      refine ax_callVR (pc' := 26) lv_X8_208 (m_girthBy (p := 0) hM hb hL (by decide) hk hr) M_o rfl rfl (Nat.le_of_ble_eq_true rfl) (Nat.le_of_ble_eq_true rfl) dX8_cancel_23 rfl ?_
      have hGB := m_girthBy (p := 0) hM hb hL (by decide) hk hr
      cases hgb : sp_gb S.2.1 (sp_at S.2.2.1.1 r) with
      | none =>
        refine ax_if_ge (pc' := 29) (tgt := 32) dX8_cancel_26 (by decide) rfl (fun hz => absurd hz ((by decide))) (fun _ => ?_)
        refine ax_bipush (pc' := 31) (v := (-4)) kb_m4 dX8_cancel_29 rfl ?_
        exact ax_iret dX8_cancel_31 rfl (Nat.le_of_ble_eq_true rfl) (Nat.le_of_ble_eq_true rfl) (⟨by simp [o_cancel, e1, e2, hgb], hx, ax_fr.rf⟩)
      | some g =>
        rw [hgb] at hGB
        have hgl := sp_gb_le hb q3 hgb
        obtain ⟨q, hq⟩ : ∃ q, q = sp_at S.2.2.1.1 r := ⟨_, rfl⟩
        obtain ⟨off, hoff⟩ : ∃ off, off = sp_far g S.2.1.1 := ⟨_, rfl⟩
        have hoffl : off ≤ 5000000 := by rw [hoff]; exact sp_far_le (by omega) (by omega)
        refine ax_if_ge (pc' := 29) (tgt := 32) dX8_cancel_26 (by decide) rfl (fun _ => ?_) (fun hz => absurd (nI_pos' (by omega)) hz)
        refine ax_aload_n (pc' := 33) rfl dX8_cancel_32 rfl ?_
        refine ax_iconst (pc' := 34) (v := (nI 0)) kc_0 dX8_cancel_33 rfl ?_
        refine ax_iload_n (pc' := 35) rfl dX8_cancel_34 rfl ?_
        refine ax_callVR (pc' := 38) lv_X8_208 (hGB) M_o rfl rfl (Nat.le_of_ble_eq_true rfl) (Nat.le_of_ble_eq_true rfl) dX8_cancel_35 rfl ?_
        refine ax_aload_n (pc' := 39) rfl dX8_cancel_38 rfl ?_
        refine ax_getf (pc' := 42) fl_X8_92 M_o rfl dX8_cancel_39 rfl ?_
        refine ax_callSR (pc' := 45) ls_X8_161 (m_apart (x := g) (by omega) (by omega)) rfl rfl (Nat.le_of_ble_eq_true rfl) (Nat.le_of_ble_eq_true rfl) dX8_cancel_42 rfl ?_
        rw [← hoff]
        refine ax_istore_n (pc' := 46) rfl (Nat.le_of_ble_eq_true rfl) dX8_cancel_45 rfl ?_
        refine ax_iload_n (pc' := 47) rfl dX8_cancel_46 rfl ?_
        refine ax_istore (pc' := 49) rfl (Nat.le_of_ble_eq_true rfl) dX8_cancel_47 rfl ?_
        refine ax_iconst (pc' := 50) (v := (nI 0)) kc_0 dX8_cancel_49 rfl ?_
        refine ax_istore (pc' := 52) rfl (Nat.le_of_ble_eq_true rfl) dX8_cancel_50 rfl ?_
        refine ax_iconst (pc' := 53) (v := (nI 1)) kc_1 dX8_cancel_52 rfl ?_
        refine ax_istore (pc' := 55) rfl (Nat.le_of_ble_eq_true rfl) dX8_cancel_53 rfl ?_
        have K : ∀ m k (z7 : Option Value), k + m = 8 → 1 ≤ k → ax_J (mX8_cancel, 8, 0, 0) 0 0 55 [some (.ref 56), some (.int (nI r)), some (.int (nI i)), some (.int (nI off)), some (.int (nI (sp_cn S.2.1 q off k))), some (.int (nI (sp_set (sp_cb S.2.1 q off) 1 k))), some (.int (nI k)), z7] [] σ (ms_Po σ (o_cancel S (nI r) (nI i))) := by
          intro m
          induction m with
          | zero =>
            intro k z7 hk8 hk1
            have hk8 : k = 8 := hk8
            subst hk8
            refine ax_iload (pc' := 57) rfl dX8_cancel_55 rfl ?_
            refine ax_bipush (pc' := 59) (v := (nI 8)) kb_8 dX8_cancel_57 rfl ?_
            refine ax_icmp_ge (pc' := 62) (tgt := 120) dX8_cancel_59 (by decide) rfl (fun _ => ?_) (fun hz => absurd ((by decide)) hz)
            refine ax_iload_n (pc' := 121) rfl dX8_cancel_120 rfl ?_
            obtain rfl | rfl : i = 0 ∨ i = 1 := by omega
            · refine ax_if_ne (pc' := 124) (tgt := 129) dX8_cancel_121 (by decide) rfl (fun hz => absurd (kz_0) hz) (fun _ => ?_)
              refine ax_iload (pc' := 126) rfl dX8_cancel_124 rfl ?_
              refine ax_goto (tgt := 131) dX8_cancel_126 (by decide) ?_
              exact ax_iret dX8_cancel_131 rfl (Nat.le_of_ble_eq_true rfl) (Nat.le_of_ble_eq_true rfl) (⟨by simp [o_cancel, e1, e2, hgb, hq, hoff], hx, ax_fr.rf⟩)
            · refine ax_if_ne (pc' := 124) (tgt := 129) dX8_cancel_121 (by decide) rfl (fun _ => ?_) (fun hz => absurd hz (kz_1))
              refine ax_iload (pc' := 131) rfl dX8_cancel_129 rfl ?_
              exact ax_iret dX8_cancel_131 rfl (Nat.le_of_ble_eq_true rfl) (Nat.le_of_ble_eq_true rfl) (⟨by simp [o_cancel, e1, e2, hgb, hq, hoff], hx, ax_fr.rf⟩)
          | succ m ih =>
            intro k z7 hk8 hk1
            have hcn := sp_cn_le (b := S.2.1) (q := q) (off := off) (k := k)
            have hgwl := fun g => @sp_gw_le S.2.1 (sp_at S.2.2.1.1 r) k g hb q3
            refine ax_iload (pc' := 57) rfl dX8_cancel_55 rfl ?_
            refine ax_bipush (pc' := 59) (v := (nI 8)) kb_8 dX8_cancel_57 rfl ?_
            refine ax_icmp_ge (pc' := 62) (tgt := 120) dX8_cancel_59 (by decide) rfl (fun hz => absurd hz (nI_ge (by omega) (by decide))) (fun _ => ?_)
            refine ax_aload_n (pc' := 63) rfl dX8_cancel_62 rfl ?_
            refine ax_iload_n (pc' := 64) rfl dX8_cancel_63 rfl ?_
            refine ax_iload (pc' := 66) rfl dX8_cancel_64 rfl ?_
            refine ax_callVR (pc' := 69) lv_X8_250 (m_offBy hM hb hL hk hr (by omega)) M_o rfl rfl (Nat.le_of_ble_eq_true rfl) (Nat.le_of_ble_eq_true rfl) dX8_cancel_66 rfl ?_
            rw [← hq] at hgwl ⊢
            refine ax_istore (pc' := 71) rfl (Nat.le_of_ble_eq_true rfl) dX8_cancel_69 rfl ?_
            refine ax_iload (pc' := 73) rfl dX8_cancel_71 rfl ?_
            refine ax_iload (pc' := 75) rfl dX8_cancel_73 rfl ?_
            cases hgw : sp_gw S.2.1 q k with
            | none =>
              simp only [Option.map_none]
              refine ax_if_lt (pc' := 78) (tgt := 91) dX8_cancel_75 (by decide) rfl (fun _ => ?_) (fun hz => absurd ((by decide)) hz)
              refine ax_iconst (pc' := 92) (v := (nI 0)) kc_0 dX8_cancel_91 rfl ?_
              refine ax_ior (pc' := 93) dX8_cancel_92 rfl ?_
              refine ax_topi (or_0 _) ?_
              refine ax_istore (pc' := 95) rfl (Nat.le_of_ble_eq_true rfl) dX8_cancel_93 rfl ?_
              refine ax_iload (pc' := 97) rfl dX8_cancel_95 rfl ?_
              refine ax_if_ge (pc' := 100) (tgt := 105) dX8_cancel_97 (by decide) rfl (fun hz => absurd hz ((by decide))) (fun _ => ?_)
              refine ax_iload (pc' := 102) rfl dX8_cancel_100 rfl ?_
              refine ax_goto (tgt := 112) dX8_cancel_102 (by decide) ?_
              refine ax_istore (pc' := 114) rfl (Nat.le_of_ble_eq_true rfl) dX8_cancel_112 rfl ?_
              refine ax_iinc1 (pc' := 117) rfl rfl (Nat.le_of_ble_eq_true rfl) dX8_cancel_114 rfl ?_
              refine ax_goto (tgt := 55) dX8_cancel_117 (by decide) ?_
              have := ih (k + 1) (some (.int (sp_en none))) (by omega) (by omega)
              simp only [sp_cn, sp_set, sp_cb, hgw, hk1, if_true, Bool.false_eq_true, and_false, if_false, Nat.add_zero] at this
              exact this
            | some g' =>
              have hg' := hgwl g' hgw
              have hfl : sp_far g' S.2.1.1 ≤ 5000000 := sp_far_le (by omega) (by omega)
              simp only [Option.map_some]
              refine ax_if_lt (pc' := 78) (tgt := 91) dX8_cancel_75 (by decide) rfl (fun hz => absurd hz (nI_pos (show sp_far g' S.2.1.1 < 2 ^ 31 by omega))) (fun _ => ?_)
              refine ax_iload (pc' := 80) rfl dX8_cancel_78 rfl ?_
              refine ax_iload_n (pc' := 81) rfl dX8_cancel_80 rfl ?_
              have R : ∀ s, s = sp_set (sp_cb S.2.1 q off) 1 (k + 1) → ax_J (mX8_cancel, 8, 0, 0) 0 0 93 [some (.ref 56), some (.int (nI r)), some (.int (nI i)), some (.int (nI off)), some (.int (nI (sp_cn S.2.1 q off k))), some (.int (nI (sp_set (sp_cb S.2.1 q off) 1 k))), some (.int (nI k)), some (.int (nI (sp_far g' S.2.1.1)))] [.int (nI s)] σ (ms_Po σ (o_cancel S (nI r) (nI i))) := by
                intro s hs
                refine ax_istore (pc' := 95) rfl (Nat.le_of_ble_eq_true rfl) dX8_cancel_93 rfl ?_
                refine ax_iload (pc' := 97) rfl dX8_cancel_95 rfl ?_
                refine ax_if_ge (pc' := 100) (tgt := 105) dX8_cancel_97 (by decide) rfl (fun _ => ?_) (fun hz => absurd (nI_pos' (by omega)) hz)
                refine ax_iload (pc' := 107) rfl dX8_cancel_105 rfl ?_
                refine ax_iload (pc' := 109) rfl dX8_cancel_107 rfl ?_
                refine ax_callSR (pc' := 112) ls_X8_237 (m_smaller (by omega) (by omega)) rfl rfl (Nat.le_of_ble_eq_true rfl) (Nat.le_of_ble_eq_true rfl) dX8_cancel_109 rfl ?_
                refine ax_istore (pc' := 114) rfl (Nat.le_of_ble_eq_true rfl) dX8_cancel_112 rfl ?_
                refine ax_iinc1 (pc' := 117) rfl rfl (Nat.le_of_ble_eq_true rfl) dX8_cancel_114 rfl ?_
                refine ax_goto (tgt := 55) dX8_cancel_117 (by decide) ?_
                have := ih (k + 1) (some (.int (nI (sp_far g' S.2.1.1)))) (by omega) (by omega)
                rw [← hs] at this
                simp only [sp_cn, hgw, hk1, if_true] at this
                exact this
              by_cases hlt : sp_far g' S.2.1.1 < off
              · refine ax_icmp_ge (pc' := 84) (tgt := 91) dX8_cancel_81 (by decide) rfl (fun hz => absurd hz (nI_ge hlt (by omega))) (fun _ => ?_)
                refine ax_iconst (pc' := 85) (v := (nI 1)) kc_1 dX8_cancel_84 rfl ?_
                refine ax_iload (pc' := 87) rfl dX8_cancel_85 rfl ?_
                refine ax_ishl (pc' := 88) dX8_cancel_87 rfl ?_
                refine ax_goto (tgt := 92) dX8_cancel_88 (by decide) ?_
                refine ax_ior (pc' := 93) dX8_cancel_92 rfl ?_
                refine ax_topi (v' := nI (sp_set (sp_cb S.2.1 q off) 1 (k + 1))) (by rw [sp_or_ok k (by omega) _ (sp_set_lt _ 1 k)]; simp [sp_set, sp_cb, hgw, hlt, hk1]) ?_
                exact R _ rfl
              · refine ax_icmp_ge (pc' := 84) (tgt := 91) dX8_cancel_81 (by decide) rfl (fun _ => ?_) (fun hz => absurd (nI_le (by omega) (by omega)) hz)
                refine ax_iconst (pc' := 92) (v := (nI 0)) kc_0 dX8_cancel_91 rfl ?_
                refine ax_ior (pc' := 93) dX8_cancel_92 rfl ?_
                refine ax_topi (or_0 _) ?_
                exact R _ (by simp [sp_set, sp_cb, hgw, hlt])
        exact K 7 1 none (by decide) (by decide)
    · refine ax_callSR (pc' := 15) ls_X8_101 (m_isF (by decide) (by decide) hu) rfl rfl (Nat.le_of_ble_eq_true rfl) (Nat.le_of_ble_eq_true rfl) dX8_cancel_12 rfl ?_
      refine ax_if_ne (pc' := 18) (tgt := 20) dX8_cancel_15 (by decide) rfl (fun hz => absurd (kz_0) hz) (fun _ => ?_)
      exact NO _ (by simp [o_cancel, e1, e2])
  · refine ax_callVR (pc' := 5) lv_X8_203 (m_isReportF hM hL h9 hv) M_o rfl rfl (Nat.le_of_ble_eq_true rfl) (Nat.le_of_ble_eq_true rfl) dX8_cancel_2 rfl ?_
    refine ax_if_eq (pc' := 8) (tgt := 18) dX8_cancel_5 (by decide) rfl (fun _ => ?_) (fun hz => absurd (kz_0) hz)
    exact NO _ (by simp [o_cancel, e1])
theorem y_sail (hx : ms_At σ.1 S) (hS : sp_Ok S) (v u : Int32) : ax_N mX8_sail 8 0 0 [.ref 56, .int v, .int u] σ (ms_Po σ (o_sail S v u)) := by
  obtain ⟨ng, nt, nw, ap, bg, wr, f, M_o, hMb, M_slot, hSl, hNew, hTx, hSg⟩ := id hx
  have hM : ml_At σ.1 S.2.1 f := ⟨⟨ng, nt, nw, _, _, _, ap, bg, wr, _, M_o⟩, hMb, M_slot⟩
  have hb := hS.2.1
  have hg := hb.1.2
  have hmn := fun m => @sp_mn_le S hS m
  refine ax_N.of (ls := [some (.ref 56), some (.int v), some (.int u), none, none, none]) (by decide +kernel) rfl (Nat.le_of_ble_eq_true rfl) ?_
  have NO : ∀ zz, o_sail S v u = (-1, S) → ax_J (mX8_sail, 8, 0, 0) 0 0 24 zz [] σ (ms_Po σ (o_sail S v u)) := by
    intro zz ho
    rw [ho]
    refine ax_iconst (pc' := 25) (v := (-1)) kc_m1 dX8_sail_24 rfl ?_
    exact ax_iret dX8_sail_25 rfl (Nat.le_of_ble_eq_true rfl) (Nat.le_of_ble_eq_true rfl) (⟨rfl, hx, ax_fr.rf⟩)
  refine ax_iload_n (pc' := 1) rfl dX8_sail_0 rfl ?_
  refine ax_i2l (pc' := 2) dX8_sail_1 rfl ?_
  refine ax_lconst (pc' := 3) (v := lN 1) rfl dX8_sail_2 rfl ?_
  refine ax_ldc2 (pc' := 6) kl_X8_253 dX8_sail_3 rfl ?_
  rcases sp_in_cases v (lo := 1) (hi := 360) (by decide) (by decide) with ⟨l, h1, hl, rfl, e1⟩ | ⟨hv, e1⟩
  · refine ax_callSR (pc' := 9) ls_X8_101 (m_isT (by decide) (by decide) (nI_le h1 (by omega)) (nI_le hl (by decide))) rfl rfl (Nat.le_of_ble_eq_true rfl) (Nat.le_of_ble_eq_true rfl) dX8_sail_6 rfl ?_
    refine ax_if_eq (pc' := 12) (tgt := 24) dX8_sail_9 (by decide) rfl (fun hz => absurd hz (kz_1)) (fun _ => ?_)
    refine ax_iload_n (pc' := 13) rfl dX8_sail_12 rfl ?_
    refine ax_i2l (pc' := 14) dX8_sail_13 rfl ?_
    refine ax_lconst (pc' := 15) (v := lN 1) rfl dX8_sail_14 rfl ?_
    refine ax_ldc2 (pc' := 18) kl_X8_242 dX8_sail_15 rfl ?_
    rcases sp_in_cases u (lo := 1) (hi := 99) (by decide) (by decide) with ⟨d, hd1, hd, rfl, e2⟩ | ⟨hu, e2⟩
    · refine ax_callSR (pc' := 21) ls_X8_101 (m_isT (by decide) (by decide) (nI_le hd1 (by omega)) (nI_le hd (by decide))) rfl rfl (Nat.le_of_ble_eq_true rfl) (Nat.le_of_ble_eq_true rfl) dX8_sail_18 rfl ?_
      refine ax_if_ne (pc' := 24) (tgt := 26) dX8_sail_21 (by decide) rfl (fun _ => ?_) (fun hz => absurd hz (kz_1))
      refine ax_aload_n (pc' := 27) rfl dX8_sail_26 rfl ?_
      refine ax_callVR (pc' := 30) lv_X8_255 (m_mean hM hS hSl.1) M_o rfl rfl (Nat.le_of_ble_eq_true rfl) (Nat.le_of_ble_eq_true rfl) dX8_sail_27 rfl ?_
      refine ax_istore_n (pc' := 31) rfl (Nat.le_of_ble_eq_true rfl) dX8_sail_30 rfl ?_
      refine ax_iload_n (pc' := 32) rfl dX8_sail_31 rfl ?_
      cases hm : sp_mn S with
      | none =>
        refine ax_if_ge (pc' := 35) (tgt := 38) dX8_sail_32 (by decide) rfl (fun hz => absurd hz ((by decide))) (fun _ => ?_)
        refine ax_bipush (pc' := 37) (v := (-4)) kb_m4 dX8_sail_35 rfl ?_
        exact ax_iret dX8_sail_37 rfl (Nat.le_of_ble_eq_true rfl) (Nat.le_of_ble_eq_true rfl) (⟨by simp [o_sail, e1, e2, hm], hx, ax_fr.rf⟩)
      | some m =>
        have hml := hmn m hm
        have hmm : m * l ≤ 4309200 * 360 := Nat.mul_le_mul hml hl
        have hgm : S.2.1.1 * l ≤ 3960 * 360 := Nat.mul_le_mul hg hl
        refine ax_if_ge (pc' := 35) (tgt := 38) dX8_sail_32 (by decide) rfl (fun _ => ?_) (fun hz => absurd (nI_pos' (by omega)) hz)
        refine ax_lconst (pc' := 39) (v := lN 1) rfl dX8_sail_38 rfl ?_
        refine ax_iload_n (pc' := 40) rfl dX8_sail_39 rfl ?_
        refine ax_i2l (pc' := 41) dX8_sail_40 rfl ?_
        refine ax_topl (nI_l (by omega)) ?_
        refine ax_lmul (pc' := 42) dX8_sail_41 rfl ?_
        refine ax_topl (v' := lN m) (by rw [lN_mul, Nat.one_mul]) ?_
        refine ax_iload_n (pc' := 43) rfl dX8_sail_42 rfl ?_
        refine ax_i2l (pc' := 44) dX8_sail_43 rfl ?_
        refine ax_topl (nI_l (by omega)) ?_
        refine ax_lmul (pc' := 45) dX8_sail_44 rfl ?_
        refine ax_topl (lN_mul m l) ?_
        refine ax_ldc2 (pc' := 48) kl_X8_253 dX8_sail_45 rfl ?_
        refine ax_ldiv (pc' := 49) (fun h => absurd ((pk_lEQ (a := 360) (b := 0) (by decide) (by decide)).mp h) (by decide)) dX8_sail_48 rfl ?_
        refine ax_topl (pk_lDiv (by omega) (by decide) (by decide)) ?_
        refine ax_ldc2 (pc' := 52) kl_X8_240 dX8_sail_49 rfl ?_
        refine ax_iload_n (pc' := 53) rfl dX8_sail_52 rfl ?_
        refine ax_i2l (pc' := 54) dX8_sail_53 rfl ?_
        refine ax_topl (nI_l (by omega)) ?_
        refine ax_lmul (pc' := 55) dX8_sail_54 rfl ?_
        refine ax_topl (lN_mul 100 d) ?_
        refine ax_lcmp (pc' := 56) dX8_sail_55 rfl ?_
        have J : ∀ x : Bool, x = decide (m * l / 360 ≤ 100 * d) → ax_J (mX8_sail, 8, 0, 0) 0 0 64 [some (.ref 56), some (.int (nI l)), some (.int (nI d)), some (.int (nI m)), none, none] [.int (nI (sp_bl x))] σ (ms_Po σ (o_sail S (nI l) (nI d))) := by
          intro x hxx
          refine ax_istore (pc' := 66) rfl (Nat.le_of_ble_eq_true rfl) dX8_sail_64 rfl ?_
          refine ax_aload_n (pc' := 67) rfl dX8_sail_66 rfl ?_
          refine ax_getf (pc' := 70) fl_X8_92 M_o rfl dX8_sail_67 rfl ?_
          refine ax_iload_n (pc' := 71) rfl dX8_sail_70 rfl ?_
          refine ax_imul (pc' := 72) dX8_sail_71 rfl ?_
          refine ax_topi (pk_mul _ _) ?_
          refine ax_sipush (pc' := 75) (v := (nI 360)) ks_360 dX8_sail_72 rfl ?_
          refine ax_idiv (pc' := 76) (by decide) dX8_sail_75 rfl ?_
          refine ax_topi (pk_div (by omega) (by decide) (by decide)) ?_
          refine ax_bipush (pc' := 78) (v := (nI 100)) kb_100 dX8_sail_76 rfl ?_
          refine ax_iload_n (pc' := 79) rfl dX8_sail_78 rfl ?_
          refine ax_imul (pc' := 80) dX8_sail_79 rfl ?_
          refine ax_topi (pk_mul 100 d) ?_
          have J2 : ∀ y : Bool, y = decide (S.2.1.1 * l / 360 ≤ 100 * d) → ax_J (mX8_sail, 8, 0, 0) 0 0 88 [some (.ref 56), some (.int (nI l)), some (.int (nI d)), some (.int (nI m)), some (.int (nI (sp_bl x))), none] [.int (nI (sp_bl y))] σ (ms_Po σ (o_sail S (nI l) (nI d))) := by
            intro y hy
            refine ax_istore (pc' := 90) rfl (Nat.le_of_ble_eq_true rfl) dX8_sail_88 rfl ?_
            refine ax_iload (pc' := 92) rfl dX8_sail_90 rfl ?_
            cases x with
            | false =>
              have g1 : 100 * d < m * l / 360 := by simpa using hxx.symm
              refine ax_if_ne (pc' := 95) (tgt := 99) dX8_sail_92 (by decide) rfl (fun hz => absurd (kz_0) hz) (fun _ => ?_)
              refine ax_iconst (pc' := 96) (v := (nI 0)) kc_0 dX8_sail_95 rfl ?_
              refine ax_goto (tgt := 109) dX8_sail_96 (by decide) ?_
              exact ax_iret dX8_sail_109 rfl (Nat.le_of_ble_eq_true rfl) (Nat.le_of_ble_eq_true rfl) (⟨by simp [o_sail, e1, e2, hm, g1], hx, ax_fr.rf⟩)
            | true =>
              have g1 : ¬ 100 * d < m * l / 360 := by simpa using hxx.symm
              refine ax_if_ne (pc' := 95) (tgt := 99) dX8_sail_92 (by decide) rfl (fun _ => ?_) (fun hz => absurd hz (kz_1))
              refine ax_iload (pc' := 101) rfl dX8_sail_99 rfl ?_
              cases y with
              | false =>
                have g2 : 100 * d < S.2.1.1 * l / 360 := by simpa using hy.symm
                refine ax_if_eq (pc' := 104) (tgt := 108) dX8_sail_101 (by decide) rfl (fun _ => ?_) (fun hz => absurd (kz_0) hz)
                refine ax_iconst (pc' := 109) (v := (nI 1)) kc_1 dX8_sail_108 rfl ?_
                exact ax_iret dX8_sail_109 rfl (Nat.le_of_ble_eq_true rfl) (Nat.le_of_ble_eq_true rfl) (⟨by simp [o_sail, e1, e2, hm, g1, g2], hx, ax_fr.rf⟩)
              | true =>
                have g2 : ¬ 100 * d < S.2.1.1 * l / 360 := by simpa using hy.symm
                refine ax_if_eq (pc' := 104) (tgt := 108) dX8_sail_101 (by decide) rfl (fun hz => absurd hz (kz_1)) (fun _ => ?_)
                refine ax_iconst (pc' := 105) (v := (nI 2)) kc_2 dX8_sail_104 rfl ?_
                refine ax_goto (tgt := 109) dX8_sail_105 (by decide) ?_
                exact ax_iret dX8_sail_109 rfl (Nat.le_of_ble_eq_true rfl) (Nat.le_of_ble_eq_true rfl) (⟨by simp [o_sail, e1, e2, hm, g1, g2], hx, ax_fr.rf⟩)
          by_cases h2 : S.2.1.1 * l / 360 ≤ 100 * d
          · refine ax_icmp_gt (pc' := 83) (tgt := 87) dX8_sail_80 (by decide) rfl (fun hz => absurd hz (nI_nlt h2 (by omega))) (fun _ => ?_)
            refine ax_iconst (pc' := 84) (v := (nI 1)) kc_1 dX8_sail_83 rfl ?_
            refine ax_goto (tgt := 88) dX8_sail_84 (by decide) ?_
            exact J2 true (by simp [h2])
          · refine ax_icmp_gt (pc' := 83) (tgt := 87) dX8_sail_80 (by decide) rfl (fun _ => ?_) (fun hz => absurd (nI_lt (by omega) (by omega)) hz)
            refine ax_iconst (pc' := 88) (v := (nI 0)) kc_0 dX8_sail_87 rfl ?_
            exact J2 false (by simp [h2])
        by_cases h1 : m * l / 360 ≤ 100 * d
        · refine ax_if_gt (pc' := 59) (tgt := 63) dX8_sail_56 (by decide) rfl (fun hz => absurd hz (fun h => absurd ((ax_cmp_gt (by omega) (by omega)).mp h) (by omega))) (fun _ => ?_)
          refine ax_iconst (pc' := 60) (v := (nI 1)) kc_1 dX8_sail_59 rfl ?_
          refine ax_goto (tgt := 64) dX8_sail_60 (by decide) ?_
          exact J true (by simp [h1])
        · refine ax_if_gt (pc' := 59) (tgt := 63) dX8_sail_56 (by decide) rfl (fun _ => ?_) (fun hz => absurd ((ax_cmp_gt (by omega) (by omega)).mpr (by omega)) hz)
          refine ax_iconst (pc' := 64) (v := (nI 0)) kc_0 dX8_sail_63 rfl ?_
          exact J false (by simp [h1])
    · refine ax_callSR (pc' := 21) ls_X8_101 (m_isF (by decide) (by decide) hu) rfl rfl (Nat.le_of_ble_eq_true rfl) (Nat.le_of_ble_eq_true rfl) dX8_sail_18 rfl ?_
      refine ax_if_ne (pc' := 24) (tgt := 26) dX8_sail_21 (by decide) rfl (fun hz => absurd (kz_0) hz) (fun _ => ?_)
      exact NO _ (by simp [o_sail, e1, e2])
  · refine ax_callSR (pc' := 9) ls_X8_101 (m_isF (by decide) (by decide) hv) rfl rfl (Nat.le_of_ble_eq_true rfl) (Nat.le_of_ble_eq_true rfl) dX8_sail_6 rfl ?_
    refine ax_if_eq (pc' := 12) (tgt := 24) dX8_sail_9 (by decide) rfl (fun _ => ?_) (fun hz => absurd (kz_0) hz)
    exact NO _ (by simp [o_sail, e1])
theorem m_isSo {w kd u : Nat} (hx : ms_At σ.1 S) (hS : sp_Ok S) (hw : w < S.2.1.2.2.1) (hkd : kd ≤ 3) (h0 : 0 < u) (hu : u ≤ 9) : ax_R mX8_isSo 4 [.ref 56, .int (nI w), .int (nI kd), .int (nI u)] σ (.int (nI (sp_bl (sp_fit S.2.1 S.2.2.1.1 S.2.2.2.2.2 w kd u S.2.2.2.2.2.length)))) := by
  obtain ⟨ng, nt, nw, ap, bg, wr, f, M_o, hMb, M_slot, hSl, hNew, hTx, hSg⟩ := id hx
  have hM : ml_At σ.1 S.2.1 f := ⟨⟨ng, nt, nw, _, _, _, ap, bg, wr, _, M_o⟩, hMb, M_slot⟩
  have hb := hS.2.1
  have hk := hS.2.2.2.1
  have hs := hS.2.2.2.2.2.2.2.2
  have h6 := hs.1
  have h4 := hb.2.2.1
  have hL := hSl.1
  obtain ⟨gw, gf, gt, gs, M_sawWho, M_sawFrom, M_sawTo, M_sawMany, hv⟩ := hSg
  refine ax_N.of (ls := [some (.ref 56), some (.int (nI w)), some (.int (nI kd)), some (.int (nI u)), none, none]) (by decide +kernel) rfl (Nat.le_of_ble_eq_true rfl) ?_
  refine ax_iconst (pc' := 1) (v := (nI 1)) kc_1 dX8_isSo_0 rfl ?_
  refine ax_istore (pc' := 3) rfl (Nat.le_of_ble_eq_true rfl) dX8_isSo_1 rfl ?_
  refine ax_iconst (pc' := 4) (v := (nI 0)) kc_0 dX8_isSo_3 rfl ?_
  refine ax_istore (pc' := 6) rfl (Nat.le_of_ble_eq_true rfl) dX8_isSo_4 rfl ?_
  have K : ∀ m i, i + m = S.2.2.2.2.2.length → ax_J (mX8_isSo, 4, 0, 0) 0 0 6 [some (.ref 56), some (.int (nI w)), some (.int (nI kd)), some (.int (nI u)), some (.int (nI (sp_bl (sp_fit S.2.1 S.2.2.1.1 S.2.2.2.2.2 w kd u i)))), some (.int (nI i))] [] σ (fun r σ' => r = some (.int (nI (sp_bl (sp_fit S.2.1 S.2.2.1.1 S.2.2.2.2.2 w kd u S.2.2.2.2.2.length)))) ∧ σ' = σ) := by
    intro m
    induction m with
    | zero =>
      intro i hi
      have hi : i = S.2.2.2.2.2.length := hi
      subst hi
      refine ax_iload (pc' := 8) rfl dX8_isSo_6 rfl ?_
      refine ax_aload_n (pc' := 9) rfl dX8_isSo_8 rfl ?_
      refine ax_getf (pc' := 12) fl_X8_155 M_o rfl dX8_isSo_9 rfl ?_
      refine ax_icmp_ge (pc' := 15) (tgt := 76) dX8_isSo_12 (by decide) rfl (fun _ => ?_) (fun hz => absurd (nI_le (Nat.le_refl _) (by omega)) hz)
      refine ax_iload (pc' := 78) rfl dX8_isSo_76 rfl ?_
      refine ax_zret dX8_isSo_78 rfl ?_ (Nat.le_refl 0) (Nat.le_refl 0) ⟨rfl, rfl⟩
      cases sp_fit S.2.1 S.2.2.1.1 S.2.2.2.2.2 w kd u S.2.2.2.2.2.length <;> decide
    | succ m ih =>
      intro i hi
      have hil : i < S.2.2.2.2.2.length := by omega
      obtain ⟨e0, e1, e2, e3⟩ := hv i hil
      obtain ⟨q0, q1, q2, q3⟩ := hs.2 i hil
      refine ax_iload (pc' := 8) rfl dX8_isSo_6 rfl ?_
      refine ax_aload_n (pc' := 9) rfl dX8_isSo_8 rfl ?_
      refine ax_getf (pc' := 12) fl_X8_155 M_o rfl dX8_isSo_9 rfl ?_
      refine ax_icmp_ge (pc' := 15) (tgt := 76) dX8_isSo_12 (by decide) rfl (fun hz => absurd hz (nI_ge hil (by omega))) (fun _ => ?_)
      refine ax_iload (pc' := 17) rfl dX8_isSo_15 rfl ?_
      have N : sp_fit S.2.1 S.2.2.1.1 S.2.2.2.2.2 w kd u (i + 1) = false → ax_J (mX8_isSo, 4, 0, 0) 0 0 67 [some (.ref 56), some (.int (nI w)), some (.int (nI kd)), some (.int (nI u)), some (.int (nI (sp_bl (sp_fit S.2.1 S.2.2.1.1 S.2.2.2.2.2 w kd u i)))), some (.int (nI i))] [] σ (fun r σ' => r = some (.int (nI (sp_bl (sp_fit S.2.1 S.2.2.1.1 S.2.2.2.2.2 w kd u S.2.2.2.2.2.length)))) ∧ σ' = σ) := by
        intro hn
        refine ax_iconst (pc' := 68) (v := (nI 0)) kc_0 dX8_isSo_67 rfl ?_
        refine ax_istore (pc' := 70) rfl (Nat.le_of_ble_eq_true rfl) dX8_isSo_68 rfl ?_
        refine ax_iinc1 (pc' := 73) rfl rfl (Nat.le_of_ble_eq_true rfl) dX8_isSo_70 rfl ?_
        refine ax_goto (tgt := 6) dX8_isSo_73 (by decide) ?_
        have := ih (i + 1) (by omega)
        rw [hn] at this
        exact this
      have Y : sp_fit S.2.1 S.2.2.1.1 S.2.2.2.2.2 w kd u (i + 1) = true → ax_J (mX8_isSo, 4, 0, 0) 0 0 63 [some (.ref 56), some (.int (nI w)), some (.int (nI kd)), some (.int (nI u)), some (.int (nI (sp_bl (sp_fit S.2.1 S.2.2.1.1 S.2.2.2.2.2 w kd u i)))), some (.int (nI i))] [] σ (fun r σ' => r = some (.int (nI (sp_bl (sp_fit S.2.1 S.2.2.1.1 S.2.2.2.2.2 w kd u S.2.2.2.2.2.length)))) ∧ σ' = σ) := by
        intro hn
        refine ax_iconst (pc' := 64) (v := (nI 1)) kc_1 dX8_isSo_63 rfl ?_
        refine ax_goto (tgt := 68) dX8_isSo_64 (by decide) ?_
        refine ax_istore (pc' := 70) rfl (Nat.le_of_ble_eq_true rfl) dX8_isSo_68 rfl ?_
        refine ax_iinc1 (pc' := 73) rfl rfl (Nat.le_of_ble_eq_true rfl) dX8_isSo_70 rfl ?_
        refine ax_goto (tgt := 6) dX8_isSo_73 (by decide) ?_
        have := ih (i + 1) (by omega)
        rw [hn] at this
        exact this
      by_cases hf : sp_fit S.2.1 S.2.2.1.1 S.2.2.2.2.2 w kd u i = true
      · refine ax_if_eq (pc' := 20) (tgt := 67) dX8_isSo_17 (by decide) rfl (fun hz => absurd hz (by rw [hf]; exact kz_1)) (fun _ => ?_)
        refine ax_aload_n (pc' := 21) rfl dX8_isSo_20 rfl ?_
        refine ax_getf (pc' := 24) fl_X8_53 M_o rfl dX8_isSo_21 rfl ?_
        refine ax_iload (pc' := 26) rfl dX8_isSo_24 rfl ?_
        refine ax_iald (pc' := 27) M_sawWho rfl (by omega) (by first | decide | assumption | omega) dX8_isSo_26 rfl ?_
        refine ax_topi e0 ?_
        refine ax_iload_n (pc' := 28) rfl dX8_isSo_27 rfl ?_
        by_cases hwi : (sp_at S.2.2.2.2.2 i).1 = w
        · have ht := sp_told_le hb hk (w := w) (a := (sp_at S.2.2.2.2.2 i).2.1) (c := (sp_at S.2.2.2.2.2 i).2.2.1) (kd := kd) (u := u) h0
          refine ax_icmp_ne (pc' := 31) (tgt := 63) dX8_isSo_28 (by decide) rfl (fun hz => absurd (by rw [hwi]) hz) (fun _ => ?_)
          refine ax_aload_n (pc' := 32) rfl dX8_isSo_31 rfl ?_
          refine ax_iconst (pc' := 33) (v := (nI 0)) kc_0 dX8_isSo_32 rfl ?_
          refine ax_iload_n (pc' := 34) rfl dX8_isSo_33 rfl ?_
          refine ax_aload_n (pc' := 35) rfl dX8_isSo_34 rfl ?_
          refine ax_getf (pc' := 38) fl_X8_56 M_o rfl dX8_isSo_35 rfl ?_
          refine ax_iload (pc' := 40) rfl dX8_isSo_38 rfl ?_
          refine ax_iald (pc' := 41) M_sawFrom rfl (by omega) (by first | decide | assumption | omega) dX8_isSo_40 rfl ?_
          refine ax_topi e1 ?_
          refine ax_aload_n (pc' := 42) rfl dX8_isSo_41 rfl ?_
          refine ax_getf (pc' := 45) fl_X8_59 M_o rfl dX8_isSo_42 rfl ?_
          refine ax_iload (pc' := 47) rfl dX8_isSo_45 rfl ?_
          refine ax_iald (pc' := 48) M_sawTo rfl (by omega) (by first | decide | assumption | omega) dX8_isSo_47 rfl ?_
          refine ax_topi e2 ?_
          refine ax_iload_n (pc' := 49) rfl dX8_isSo_48 rfl ?_
          refine ax_iload_n (pc' := 50) rfl dX8_isSo_49 rfl ?_
          refine ax_callVR (pc' := 53) lv_X8_217 (m_told (p := 0) hM hb hL (by decide) hk hw q1 q2 hkd h0 hu) M_o rfl rfl (Nat.le_of_ble_eq_true rfl) (Nat.le_of_ble_eq_true rfl) dX8_isSo_50 rfl ?_
          refine ax_aload_n (pc' := 54) rfl dX8_isSo_53 rfl ?_
          refine ax_getf (pc' := 57) fl_X8_62 M_o rfl dX8_isSo_54 rfl ?_
          refine ax_iload (pc' := 59) rfl dX8_isSo_57 rfl ?_
          refine ax_iald (pc' := 60) M_sawMany rfl (by omega) (by first | decide | assumption | omega) dX8_isSo_59 rfl ?_
          refine ax_topi e3 ?_
          by_cases heq : sp_told S.2.1 S.2.2.1.1 w (sp_at S.2.2.2.2.2 i).2.1 (sp_at S.2.2.2.2.2 i).2.2.1 kd u = (sp_at S.2.2.2.2.2 i).2.2.2
          · refine ax_icmp_ne (pc' := 63) (tgt := 67) dX8_isSo_60 (by decide) rfl (fun hz => absurd (by rw [heq]) hz) (fun _ => ?_)
            exact Y (by simp [sp_fit, hf, heq])
          · refine ax_icmp_ne (pc' := 63) (tgt := 67) dX8_isSo_60 (by decide) rfl (fun _ => ?_) (fun hz => absurd hz (fun h => heq ((nI_eq (by omega) (by omega)).mp h)))
            exact N (by simp [sp_fit, hf, heq, hwi])
        · refine ax_icmp_ne (pc' := 31) (tgt := 63) dX8_isSo_28 (by decide) rfl (fun _ => ?_) (fun hz => absurd hz (fun h => hwi ((nI_eq (by omega) (by omega)).mp h)))
          exact Y (by simp [sp_fit, hf, hwi])
      · refine ax_if_eq (pc' := 20) (tgt := 67) dX8_isSo_17 (by decide) rfl (fun _ => ?_) (fun hz => absurd (by rw [show sp_fit S.2.1 S.2.2.1.1 S.2.2.2.2.2 w kd u i = false by simpa using hf]; exact kz_0) hz)
        exact N (by simp [sp_fit, hf])
  exact K S.2.2.2.2.2.length 0 (Nat.zero_add _)
theorem y_fits (hx : ms_At σ.1 S) (hS : sp_Ok S) (v u : Int32) : ax_N mX8_fits 8 0 0 [.ref 56, .int v, .int u] σ (ms_Po σ (o_fits S v u)) := by
  obtain ⟨ng, nt, nw, ap, bg, wr, f, M_o, hMb, M_slot, hSl, hNew, hTx, hSg⟩ := id hx
  obtain ⟨fl, fn, fb, fk, fp, fu, M_north, M_lean, M_bend, M_sort, M_pace, M_unit, r1, r2, r3⟩ := id hMb
  have hM : ml_At σ.1 S.2.1 f := ⟨⟨ng, nt, nw, _, _, _, ap, bg, wr, _, M_o⟩, hMb, M_slot⟩
  have hb := hS.2.1
  have h4 := hb.2.2.1
  refine ax_N.of (ls := [some (.ref 56), some (.int v), some (.int u), none, none, none]) (by decide +kernel) rfl (Nat.le_of_ble_eq_true rfl) ?_
  have NO : ∀ zz, o_fits S v u = (-1, S) → ax_J (mX8_fits, 8, 0, 0) 0 0 18 zz [] σ (ms_Po σ (o_fits S v u)) := by
    intro zz ho
    rw [ho]
    refine ax_iconst (pc' := 19) (v := (-1)) kc_m1 dX8_fits_18 rfl ?_
    exact ax_iret dX8_fits_19 rfl (Nat.le_of_ble_eq_true rfl) (Nat.le_of_ble_eq_true rfl) (⟨rfl, hx, ax_fr.rf⟩)
  refine ax_aload_n (pc' := 1) rfl dX8_fits_0 rfl ?_
  refine ax_iload_n (pc' := 2) rfl dX8_fits_1 rfl ?_
  rcases sp_ix_cases v (n := S.2.1.2.2.1) (by omega) with ⟨w, hw, rfl, e1⟩ | ⟨hv, e1⟩
  · refine ax_callVR (pc' := 5) lv_X8_183 (m_isWalkerT hM hb hw) M_o rfl rfl (Nat.le_of_ble_eq_true rfl) (Nat.le_of_ble_eq_true rfl) dX8_fits_2 rfl ?_
    refine ax_if_eq (pc' := 8) (tgt := 18) dX8_fits_5 (by decide) rfl (fun hz => absurd hz (kz_1)) (fun _ => ?_)
    refine ax_iload_n (pc' := 9) rfl dX8_fits_8 rfl ?_
    refine ax_i2l (pc' := 10) dX8_fits_9 rfl ?_
    refine ax_lconst (pc' := 11) (v := lN 0) rfl dX8_fits_10 rfl ?_
    refine ax_lconst (pc' := 12) (v := lN 1) rfl dX8_fits_11 rfl ?_
    obtain ⟨k1, k2, k3, k4, k5⟩ := hb.2.2.2.2.2 w
    obtain ⟨s1, s2, s3⟩ := r3 w hw
    rcases sp_in_cases u (lo := 0) (hi := 1) (by decide) (by decide) with ⟨i, h1, hi, rfl, e2⟩ | ⟨hu, e2⟩
    · refine ax_callSR (pc' := 15) ls_X8_101 (m_isT (by decide) (by decide) (nI_le h1 (by omega)) (nI_le hi (by decide))) rfl rfl (Nat.le_of_ble_eq_true rfl) (Nat.le_of_ble_eq_true rfl) dX8_fits_12 rfl ?_
      refine ax_if_ne (pc' := 18) (tgt := 20) dX8_fits_15 (by decide) rfl (fun _ => ?_) (fun hz => absurd hz (kz_1))
      refine ax_iconst (pc' := 21) (v := (nI 0)) kc_0 dX8_fits_20 rfl ?_
      refine ax_istore_n (pc' := 22) rfl (Nat.le_of_ble_eq_true rfl) dX8_fits_21 rfl ?_
      refine ax_iconst (pc' := 23) (v := (nI 1)) kc_1 dX8_fits_22 rfl ?_
      refine ax_iload_n (pc' := 24) rfl dX8_fits_23 rfl ?_
      refine ax_isub (pc' := 25) dX8_fits_24 rfl ?_
      refine ax_topi (v' := nI (1 - i)) (pk_sub hi) ?_
      refine ax_istore (pc' := 27) rfl (Nat.le_of_ble_eq_true rfl) dX8_fits_25 rfl ?_
      obtain rfl | rfl : i = 0 ∨ i = 1 := by omega
      · obtain ⟨P, hP⟩ : ∃ P : Nat → Bool, P = (fun u => sp_fit S.2.1 S.2.2.1.1 S.2.2.2.2.2 w (sp_K S.2.1 w) u S.2.2.2.2.2.length) := ⟨_, rfl⟩
        have K : ∀ m k (z5 : Option Value), k + m = 10 → 1 ≤ k → ax_J (mX8_fits, 8, 0, 0) 0 0 27 [some (.ref 56), some (.int (nI w)), some (.int (nI 0)), some (.int (nI (sp_set P 1 k))), some (.int (nI k)), z5] [] σ (ms_Po σ (o_fits S (nI w) (nI 0))) := by
          intro m
          induction m with
          | zero =>
            intro k z5 hk hk1
            have hk : k = 10 := hk
            subst hk
            refine ax_iload (pc' := 29) rfl dX8_fits_27 rfl ?_
            refine ax_iload_n (pc' := 30) rfl dX8_fits_29 rfl ?_
            refine ax_if_ne (pc' := 33) (tgt := 38) dX8_fits_30 (by decide) rfl (fun hz => absurd (kz_0) hz) (fun _ => ?_)
            refine ax_bipush (pc' := 35) (v := (nI 9)) kb_9 dX8_fits_33 rfl ?_
            refine ax_goto (tgt := 39) dX8_fits_35 (by decide) ?_
            refine ax_icmp_gt (pc' := 42) (tgt := 99) dX8_fits_39 (by decide) rfl (fun _ => ?_) (fun hz => absurd ((by decide)) hz)
            refine ax_iload_n (pc' := 100) rfl dX8_fits_99 rfl ?_
            exact ax_iret dX8_fits_100 rfl (Nat.le_of_ble_eq_true rfl) (Nat.le_of_ble_eq_true rfl) (⟨by simp [o_fits, e1, e2, hP], hx, ax_fr.rf⟩)
          | succ m ih =>
            intro k z5 hk hk1
            refine ax_iload (pc' := 29) rfl dX8_fits_27 rfl ?_
            refine ax_iload_n (pc' := 30) rfl dX8_fits_29 rfl ?_
            refine ax_if_ne (pc' := 33) (tgt := 38) dX8_fits_30 (by decide) rfl (fun hz => absurd (kz_0) hz) (fun _ => ?_)
            refine ax_bipush (pc' := 35) (v := (nI 9)) kb_9 dX8_fits_33 rfl ?_
            refine ax_goto (tgt := 39) dX8_fits_35 (by decide) ?_
            refine ax_icmp_gt (pc' := 42) (tgt := 99) dX8_fits_39 (by decide) rfl (fun hz => absurd hz (nI_nlt (by omega) (by omega))) (fun _ => ?_)
            refine ax_iload_n (pc' := 43) rfl dX8_fits_42 rfl ?_
            refine ax_if_ne (pc' := 46) (tgt := 62) dX8_fits_43 (by decide) rfl (fun hz => absurd (kz_0) hz) (fun _ => ?_)
            refine ax_aload_n (pc' := 47) rfl dX8_fits_46 rfl ?_
            refine ax_iload_n (pc' := 48) rfl dX8_fits_47 rfl ?_
            refine ax_aload_n (pc' := 49) rfl dX8_fits_48 rfl ?_
            refine ax_getf (pc' := 52) fl_X8_19 M_o rfl dX8_fits_49 rfl ?_
            refine ax_iload_n (pc' := 53) rfl dX8_fits_52 rfl ?_
            refine ax_iald (pc' := 54) M_sort rfl (by omega) (by first | decide | assumption | omega) dX8_fits_53 rfl ?_
            refine ax_topi s1 ?_
            refine ax_iload (pc' := 56) rfl dX8_fits_54 rfl ?_
            refine ax_callVR (pc' := 59) lv_X8_260 (m_isSo (u := k) hx hS hw k1 (by omega) (by omega)) M_o rfl rfl (Nat.le_of_ble_eq_true rfl) (Nat.le_of_ble_eq_true rfl) dX8_fits_56 rfl ?_
            refine ax_goto (tgt := 75) dX8_fits_59 (by decide) ?_
            refine ax_istore (pc' := 77) rfl (Nat.le_of_ble_eq_true rfl) dX8_fits_75 rfl ?_
            refine ax_iload_n (pc' := 78) rfl dX8_fits_77 rfl ?_
            refine ax_iload (pc' := 80) rfl dX8_fits_78 rfl ?_
            by_cases hp : P k = true
            · refine ax_if_eq (pc' := 83) (tgt := 90) dX8_fits_80 (by decide) rfl (fun hz => absurd hz (by rw [show sp_fit S.2.1 S.2.2.1.1 S.2.2.2.2.2 w (sp_K S.2.1 w) k S.2.2.2.2.2.length = true by rw [hP] at hp; exact hp]; exact kz_1)) (fun _ => ?_)
              refine ax_iconst (pc' := 84) (v := (nI 1)) kc_1 dX8_fits_83 rfl ?_
              refine ax_iload (pc' := 86) rfl dX8_fits_84 rfl ?_
              refine ax_ishl (pc' := 87) dX8_fits_86 rfl ?_
              refine ax_goto (tgt := 91) dX8_fits_87 (by decide) ?_
              refine ax_ior (pc' := 92) dX8_fits_91 rfl ?_
              refine ax_topi (v' := nI (sp_set P 1 (k + 1))) (by rw [sp_or_ok k (by omega) _ (sp_set_lt P 1 k)]; simp [sp_set, hp, hk1]) ?_
              refine ax_istore_n (pc' := 93) rfl (Nat.le_of_ble_eq_true rfl) dX8_fits_92 rfl ?_
              refine ax_iinc1 (pc' := 96) rfl rfl (Nat.le_of_ble_eq_true rfl) dX8_fits_93 rfl ?_
              refine ax_goto (tgt := 27) dX8_fits_96 (by decide) ?_
              exact ih (k + 1) _ (by omega) (by omega)
            · refine ax_if_eq (pc' := 83) (tgt := 90) dX8_fits_80 (by decide) rfl (fun _ => ?_) (fun hz => absurd (by rw [show sp_fit S.2.1 S.2.2.1.1 S.2.2.2.2.2 w (sp_K S.2.1 w) k S.2.2.2.2.2.length = false by rw [hP] at hp; simpa using hp]; exact kz_0) hz)
              refine ax_iconst (pc' := 91) (v := (nI 0)) kc_0 dX8_fits_90 rfl ?_
              refine ax_ior (pc' := 92) dX8_fits_91 rfl ?_
              refine ax_topi (or_0 _) ?_
              refine ax_istore_n (pc' := 93) rfl (Nat.le_of_ble_eq_true rfl) dX8_fits_92 rfl ?_
              refine ax_iinc1 (pc' := 96) rfl rfl (Nat.le_of_ble_eq_true rfl) dX8_fits_93 rfl ?_
              refine ax_goto (tgt := 27) dX8_fits_96 (by decide) ?_
              have := fun z => ih (k + 1) z (by omega) (by omega)
              simp only [sp_set, hp, and_false, if_false, Nat.add_zero, Bool.false_eq_true] at this
              exact this _
        exact K 9 1 none (by decide) (by decide)
      · obtain ⟨P, hP⟩ : ∃ P : Nat → Bool, P = (fun kd => sp_fit S.2.1 S.2.2.1.1 S.2.2.2.2.2 w kd (sp_U S.2.1 w) S.2.2.2.2.2.length) := ⟨_, rfl⟩
        have K : ∀ m k (z5 : Option Value), k + m = 4 → ax_J (mX8_fits, 8, 0, 0) 0 0 27 [some (.ref 56), some (.int (nI w)), some (.int (nI 1)), some (.int (nI (sp_set P 0 k))), some (.int (nI k)), z5] [] σ (ms_Po σ (o_fits S (nI w) (nI 1))) := by
          intro m
          induction m with
          | zero =>
            intro k z5 hk
            have hk : k = 4 := hk
            subst hk
            refine ax_iload (pc' := 29) rfl dX8_fits_27 rfl ?_
            refine ax_iload_n (pc' := 30) rfl dX8_fits_29 rfl ?_
            refine ax_if_ne (pc' := 33) (tgt := 38) dX8_fits_30 (by decide) rfl (fun _ => ?_) (fun hz => absurd hz (kz_1))
            refine ax_iconst (pc' := 39) (v := (nI 3)) kc_3 dX8_fits_38 rfl ?_
            refine ax_icmp_gt (pc' := 42) (tgt := 99) dX8_fits_39 (by decide) rfl (fun _ => ?_) (fun hz => absurd ((by decide)) hz)
            refine ax_iload_n (pc' := 100) rfl dX8_fits_99 rfl ?_
            exact ax_iret dX8_fits_100 rfl (Nat.le_of_ble_eq_true rfl) (Nat.le_of_ble_eq_true rfl) (⟨by simp [o_fits, e1, e2, hP], hx, ax_fr.rf⟩)
          | succ m ih =>
            intro k z5 hk
            refine ax_iload (pc' := 29) rfl dX8_fits_27 rfl ?_
            refine ax_iload_n (pc' := 30) rfl dX8_fits_29 rfl ?_
            refine ax_if_ne (pc' := 33) (tgt := 38) dX8_fits_30 (by decide) rfl (fun _ => ?_) (fun hz => absurd hz (kz_1))
            refine ax_iconst (pc' := 39) (v := (nI 3)) kc_3 dX8_fits_38 rfl ?_
            refine ax_icmp_gt (pc' := 42) (tgt := 99) dX8_fits_39 (by decide) rfl (fun hz => absurd hz (nI_nlt (by omega) (by omega))) (fun _ => ?_)
            refine ax_iload_n (pc' := 43) rfl dX8_fits_42 rfl ?_
            refine ax_if_ne (pc' := 46) (tgt := 62) dX8_fits_43 (by decide) rfl (fun _ => ?_) (fun hz => absurd hz (kz_1))
            refine ax_aload_n (pc' := 63) rfl dX8_fits_62 rfl ?_
            refine ax_iload_n (pc' := 64) rfl dX8_fits_63 rfl ?_
            refine ax_iload (pc' := 66) rfl dX8_fits_64 rfl ?_
            refine ax_aload_n (pc' := 67) rfl dX8_fits_66 rfl ?_
            refine ax_getf (pc' := 70) fl_X8_25 M_o rfl dX8_fits_67 rfl ?_
            refine ax_iload_n (pc' := 71) rfl dX8_fits_70 rfl ?_
            refine ax_iald (pc' := 72) M_unit rfl (by omega) (by first | decide | assumption | omega) dX8_fits_71 rfl ?_
            refine ax_topi s3 ?_
            refine ax_callVR (pc' := 75) lv_X8_260 (m_isSo (kd := k) hx hS hw (by omega) (by omega) k5) M_o rfl rfl (Nat.le_of_ble_eq_true rfl) (Nat.le_of_ble_eq_true rfl) dX8_fits_72 rfl ?_
            refine ax_istore (pc' := 77) rfl (Nat.le_of_ble_eq_true rfl) dX8_fits_75 rfl ?_
            refine ax_iload_n (pc' := 78) rfl dX8_fits_77 rfl ?_
            refine ax_iload (pc' := 80) rfl dX8_fits_78 rfl ?_
            by_cases hp : P k = true
            · refine ax_if_eq (pc' := 83) (tgt := 90) dX8_fits_80 (by decide) rfl (fun hz => absurd hz (by rw [show sp_fit S.2.1 S.2.2.1.1 S.2.2.2.2.2 w k (sp_U S.2.1 w) S.2.2.2.2.2.length = true by rw [hP] at hp; exact hp]; exact kz_1)) (fun _ => ?_)
              refine ax_iconst (pc' := 84) (v := (nI 1)) kc_1 dX8_fits_83 rfl ?_
              refine ax_iload (pc' := 86) rfl dX8_fits_84 rfl ?_
              refine ax_ishl (pc' := 87) dX8_fits_86 rfl ?_
              refine ax_goto (tgt := 91) dX8_fits_87 (by decide) ?_
              refine ax_ior (pc' := 92) dX8_fits_91 rfl ?_
              refine ax_topi (v' := nI (sp_set P 0 (k + 1))) (by rw [sp_or_ok k (by omega) _ (sp_set_lt P 0 k)]; simp [sp_set, hp]) ?_
              refine ax_istore_n (pc' := 93) rfl (Nat.le_of_ble_eq_true rfl) dX8_fits_92 rfl ?_
              refine ax_iinc1 (pc' := 96) rfl rfl (Nat.le_of_ble_eq_true rfl) dX8_fits_93 rfl ?_
              refine ax_goto (tgt := 27) dX8_fits_96 (by decide) ?_
              exact ih (k + 1) _ (by omega)
            · refine ax_if_eq (pc' := 83) (tgt := 90) dX8_fits_80 (by decide) rfl (fun _ => ?_) (fun hz => absurd (by rw [show sp_fit S.2.1 S.2.2.1.1 S.2.2.2.2.2 w k (sp_U S.2.1 w) S.2.2.2.2.2.length = false by rw [hP] at hp; simpa using hp]; exact kz_0) hz)
              refine ax_iconst (pc' := 91) (v := (nI 0)) kc_0 dX8_fits_90 rfl ?_
              refine ax_ior (pc' := 92) dX8_fits_91 rfl ?_
              refine ax_topi (or_0 _) ?_
              refine ax_istore_n (pc' := 93) rfl (Nat.le_of_ble_eq_true rfl) dX8_fits_92 rfl ?_
              refine ax_iinc1 (pc' := 96) rfl rfl (Nat.le_of_ble_eq_true rfl) dX8_fits_93 rfl ?_
              refine ax_goto (tgt := 27) dX8_fits_96 (by decide) ?_
              have := fun z => ih (k + 1) z (by omega)
              simp only [sp_set, hp, and_false, if_false, Nat.add_zero, Bool.false_eq_true] at this
              exact this _
        exact K 4 0 none (by decide)
    · refine ax_callSR (pc' := 15) ls_X8_101 (m_isF (by decide) (by decide) hu) rfl rfl (Nat.le_of_ble_eq_true rfl) (Nat.le_of_ble_eq_true rfl) dX8_fits_12 rfl ?_
      refine ax_if_ne (pc' := 18) (tgt := 20) dX8_fits_15 (by decide) rfl (fun hz => absurd (kz_0) hz) (fun _ => ?_)
      exact NO _ (by simp [o_fits, e1, e2])
  · refine ax_callVR (pc' := 5) lv_X8_183 (m_isWalkerF hM hb hv) M_o rfl rfl (Nat.le_of_ble_eq_true rfl) (Nat.le_of_ble_eq_true rfl) dX8_fits_2 rfl ?_
    refine ax_if_eq (pc' := 8) (tgt := 18) dX8_fits_5 (by decide) rfl (fun _ => ?_) (fun hz => absurd (kz_0) hz)
    exact NO _ (by simp [o_fits, e1])
theorem y_towns (hx : ms_At σ.1 S) (hS : sp_Ok S) (v : Int32) : ax_N mX8_towns 8 0 0 [.ref 56, .int v] σ (ms_Po σ (o_towns S v)) := by
  obtain ⟨ng, nt, nw, ap, bg, wr, f, M_o, hMb, M_slot, hSl, hNew, hTx, hSg⟩ := id hx
  have hM : ml_At σ.1 S.2.1 f := ⟨⟨ng, nt, nw, _, _, _, ap, bg, wr, _, M_o⟩, hMb, M_slot⟩
  have hb := hS.2.1
  have h6 := hb.2.1
  refine ax_N.of (ls := [some (.ref 56), some (.int v), none, none]) (by decide +kernel) rfl (Nat.le_of_ble_eq_true rfl) ?_
  refine ax_iload_n (pc' := 1) rfl dX8_towns_0 rfl ?_
  refine ax_i2l (pc' := 2) dX8_towns_1 rfl ?_
  refine ax_lconst (pc' := 3) (v := lN 0) rfl dX8_towns_2 rfl ?_
  refine ax_ldc2 (pc' := 6) kl_X8_264 dX8_towns_3 rfl ?_
  rcases sp_in_cases v (lo := 0) (hi := 90) (by decide) (by decide) with ⟨s, h1, hs, rfl, e1⟩ | ⟨hv, e1⟩
  · refine ax_callSR (pc' := 9) ls_X8_101 (m_isT (by decide) (by decide) (nI_le h1 (by omega)) (nI_le hs (by decide))) rfl rfl (Nat.le_of_ble_eq_true rfl) (Nat.le_of_ble_eq_true rfl) dX8_towns_6 rfl ?_
    refine ax_if_ne (pc' := 12) (tgt := 14) dX8_towns_9 (by decide) rfl (fun _ => ?_) (fun hz => absurd hz (kz_1))
    refine ax_iconst (pc' := 15) (v := (nI 0)) kc_0 dX8_towns_14 rfl ?_
    refine ax_istore_n (pc' := 16) rfl (Nat.le_of_ble_eq_true rfl) dX8_towns_15 rfl ?_
    refine ax_iconst (pc' := 17) (v := (nI 0)) kc_0 dX8_towns_16 rfl ?_
    refine ax_istore_n (pc' := 18) rfl (Nat.le_of_ble_eq_true rfl) dX8_towns_17 rfl ?_
    obtain ⟨P, hP⟩ : ∃ P : Nat → Bool, P = (fun t => decide (sp_far (sp_sh S.2.1 t) s ≤ 1)) := ⟨_, rfl⟩
    have K : ∀ m t, t + m = S.2.1.2.1 → ax_J (mX8_towns, 8, 0, 0) 0 0 18 [some (.ref 56), some (.int (nI s)), some (.int (nI (sp_set P 0 t))), some (.int (nI t))] [] σ (ms_Po σ (o_towns S (nI s))) := by
      intro m
      induction m with
      | zero =>
        intro t ht
        have ht : t = S.2.1.2.1 := ht
        subst ht
        refine ax_iload_n (pc' := 19) rfl dX8_towns_18 rfl ?_
        refine ax_aload_n (pc' := 20) rfl dX8_towns_19 rfl ?_
        refine ax_getf (pc' := 23) fl_X8_95 M_o rfl dX8_towns_20 rfl ?_
        refine ax_icmp_ge (pc' := 26) (tgt := 55) dX8_towns_23 (by decide) rfl (fun _ => ?_) (fun hz => absurd (nI_le (Nat.le_refl _) (by omega)) hz)
        refine ax_iload_n (pc' := 56) rfl dX8_towns_55 rfl ?_
        exact ax_iret dX8_towns_56 rfl (Nat.le_of_ble_eq_true rfl) (Nat.le_of_ble_eq_true rfl) (⟨by simp [o_towns, e1, hP], hx, ax_fr.rf⟩)
      | succ m ih =>
        intro t ht
        have hsh := sp_sh_le hb t
        have hfl : sp_far (sp_sh S.2.1 t) s ≤ 1000 := sp_far_le (by omega) (by omega)
        refine ax_iload_n (pc' := 19) rfl dX8_towns_18 rfl ?_
        refine ax_aload_n (pc' := 20) rfl dX8_towns_19 rfl ?_
        refine ax_getf (pc' := 23) fl_X8_95 M_o rfl dX8_towns_20 rfl ?_
        refine ax_icmp_ge (pc' := 26) (tgt := 55) dX8_towns_23 (by decide) rfl (fun hz => absurd hz (nI_ge (by omega) (by omega))) (fun _ => ?_)
        refine ax_iload_n (pc' := 27) rfl dX8_towns_26 rfl ?_
        refine ax_aload_n (pc' := 28) rfl dX8_towns_27 rfl ?_
        refine ax_iload_n (pc' := 29) rfl dX8_towns_28 rfl ?_
        refine ax_callVR (pc' := 32) lv_X8_167 (m_shadow hM hb (t := t) (by omega)) M_o rfl rfl (Nat.le_of_ble_eq_true rfl) (Nat.le_of_ble_eq_true rfl) dX8_towns_29 rfl ?_
        refine ax_iload_n (pc' := 33) rfl dX8_towns_32 rfl ?_
        refine ax_callSR (pc' := 36) ls_X8_161 (m_apart (by omega) (by omega)) rfl rfl (Nat.le_of_ble_eq_true rfl) (Nat.le_of_ble_eq_true rfl) dX8_towns_33 rfl ?_
        refine ax_iconst (pc' := 37) (v := (nI 2)) kc_2 dX8_towns_36 rfl ?_
        by_cases hp : sp_far (sp_sh S.2.1 t) s ≤ 1
        · refine ax_icmp_ge (pc' := 40) (tgt := 46) dX8_towns_37 (by decide) rfl (fun hz => absurd hz (nI_ge (by omega) (by decide))) (fun _ => ?_)
          refine ax_iconst (pc' := 41) (v := (nI 1)) kc_1 dX8_towns_40 rfl ?_
          refine ax_iload_n (pc' := 42) rfl dX8_towns_41 rfl ?_
          refine ax_ishl (pc' := 43) dX8_towns_42 rfl ?_
          refine ax_goto (tgt := 47) dX8_towns_43 (by decide) ?_
          refine ax_ior (pc' := 48) dX8_towns_47 rfl ?_
          refine ax_topi (v' := nI (sp_set P 0 (t + 1))) (by rw [sp_or_ok t (by omega) _ (sp_set_lt P 0 t)]; simp [sp_set, hP, hp]) ?_
          refine ax_istore_n (pc' := 49) rfl (Nat.le_of_ble_eq_true rfl) dX8_towns_48 rfl ?_
          refine ax_iinc1 (pc' := 52) rfl rfl (Nat.le_of_ble_eq_true rfl) dX8_towns_49 rfl ?_
          refine ax_goto (tgt := 18) dX8_towns_52 (by decide) ?_
          exact ih (t + 1) (by omega)
        · refine ax_icmp_ge (pc' := 40) (tgt := 46) dX8_towns_37 (by decide) rfl (fun _ => ?_) (fun hz => absurd (nI_le (by omega) (by omega)) hz)
          refine ax_iconst (pc' := 47) (v := (nI 0)) kc_0 dX8_towns_46 rfl ?_
          refine ax_ior (pc' := 48) dX8_towns_47 rfl ?_
          refine ax_topi (or_0 _) ?_
          refine ax_istore_n (pc' := 49) rfl (Nat.le_of_ble_eq_true rfl) dX8_towns_48 rfl ?_
          refine ax_iinc1 (pc' := 52) rfl rfl (Nat.le_of_ble_eq_true rfl) dX8_towns_49 rfl ?_
          refine ax_goto (tgt := 18) dX8_towns_52 (by decide) ?_
          have := ih (t + 1) (by omega)
          simp only [sp_set, hP, hp, decide_false, and_false, if_false, Nat.add_zero, Bool.false_eq_true] at this
          rw [hP]
          exact this
    exact K S.2.1.2.1 0 (Nat.zero_add _)
  · refine ax_callSR (pc' := 9) ls_X8_101 (m_isF (by decide) (by decide) hv) rfl rfl (Nat.le_of_ble_eq_true rfl) (Nat.le_of_ble_eq_true rfl) dX8_towns_6 rfl ?_
    refine ax_if_ne (pc' := 12) (tgt := 14) dX8_towns_9 (by decide) rfl (fun hz => absurd (kz_0) hz) (fun _ => ?_)
    refine ax_iconst (pc' := 13) (v := (-1)) kc_m1 dX8_towns_12 rfl ?_
    exact ax_iret dX8_towns_13 rfl (Nat.le_of_ble_eq_true rfl) (Nat.le_of_ble_eq_true rfl) (⟨by simp [o_towns, e1], hx, ax_fr.rf⟩)
end MQ2
