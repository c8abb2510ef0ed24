section LP
variable {p : Program} {l : Launch} {e : Env} {s : State} {m : MethodId} {below : List Frame} {meth : Method} {c : Code} {b L : Nat} {xs : Nat → Int32} {x : ax_X}
theorem lj_end {i : Nat} {σ : ax_S} (C : lj_C p s m meth c b L xs x) (hL : L ≤ 320) (hi : ¬ i + 5 ≤ L) (h3 : i ≤ 400) : lj_J p l e s m below meth c b x 75 1535 18 [some (.retAddr 3), some (.ref 0), some (.ref 56), some (.int (nI i))] [] σ := by
  refine lj_iload_n (pc' := 19) C rfl dL_law_18 rfl ?_
  refine lj_aloadS (pc' := 20) C rfl dL_law_19 rfl ?_
  refine lj_slen (pc' := 21) C dL_law_20 rfl ?_
  refine lj_iconst (pc' := 22) (v := nI 5) C kc_5 dL_law_21 rfl ?_
  refine lj_isub (pc' := 23) C dL_law_22 rfl ?_
  refine lj_icmp_gt (pc' := 26) (tgt := 866) C dL_law_23 (by decide) rfl (fun _ => ?_) (fun h => absurd ?_ h)
  · refine lj_iconst (pc' := 867) (v := nI 1) C kc_1 dL_law_866 rfl ?_
    exact lj_ret C (Nat.le_refl _) (Nat.le_refl _) dL_law_867
  · rw [Int32.lt_iff_toInt_lt, pk_sub_toInt (by omega) (by decide), nI_toInt (by omega)]
    omega
theorem lj_loop (C : lj_C p s m meth c b L xs x) (hL : L ≤ 320) : ∀ n i (S : sp_S) (σ : ax_S), L ≤ i + n → i ≤ 330 → bo_At σ S → lj_J p l e s m below meth c b x 75 1535 18 [some (.retAddr 3), some (.ref 0), some (.ref 56), some (.int (nI i))] [] σ := by
  intro n
  induction n with
  | zero =>
    intro i S σ hn h3 hB
    exact lj_end C hL (by omega) (by omega)
  | succ n ih =>
    intro i S σ hn h3 hB
    by_cases hi : i + 5 ≤ L
    · have nx : lj_nx p l e s m below meth c b x i := by
        intro S' σ' hB'
        refine lj_iinc (pc' := 863) (v := nI (i + 5)) C rfl (nI_add i 5) rfl (Nat.le_of_ble_eq_true rfl) dL_law_860 rfl ?_
        refine lj_goto (tgt := 18) C dL_law_863 (by decide) ?_
        exact ih (i + 5) S' σ' (by omega) (by omega) hB'
      refine lj_iload_n (pc' := 19) C rfl dL_law_18 rfl ?_
      refine lj_aloadS (pc' := 20) C rfl dL_law_19 rfl ?_
      refine lj_slen (pc' := 21) C dL_law_20 rfl ?_
      refine lj_iconst (pc' := 22) (v := nI 5) C kc_5 dL_law_21 rfl ?_
      refine lj_isub (pc' := 23) C dL_law_22 rfl ?_
      refine lj_icmp_gt (pc' := 26) (tgt := 866) C dL_law_23 (by decide) rfl (fun h => absurd h ?_) (fun _ => ?_)
      · rw [Int32.lt_iff_toInt_lt, pk_sub_toInt (by omega) (by decide), nI_toInt (by omega)]
        omega
      refine lj_aloadS (pc' := 27) C rfl dL_law_26 rfl ?_
      refine lj_iload_n (pc' := 28) C rfl dL_law_27 rfl ?_
      refine lj_sld (pc' := 29) (j := i) C (by omega) (by omega) dL_law_28 rfl ?_
      refine lj_bipush (pc' := 31) (v := nI 31) C kb_31 dL_law_29 rfl ?_
      refine lj_iand (pc' := 32) C dL_law_31 rfl ?_
      obtain ⟨j, hj, ej⟩ := pk_andE (xs i) (m := nI 31) 5 (by decide)
      refine lj_topi ej ?_
      by_cases q0 : j = 0
      · subst q0
        exact lj_tabIn (off := 120) (tgt := 152) C dL_law_32 (by decide) (by decide) (by decide) (by decide) (lj_c_write C hL hi hB nx)
      by_cases q1 : j = 1
      · subst q1
        exact lj_tabIn (off := 143) (tgt := 175) C dL_law_32 (by decide) (by decide) (by decide) (by decide) (lj_c_wipe C hL hi hB nx)
      by_cases q2 : j = 2
      · subst q2
        exact lj_tabIn (off := 156) (tgt := 188) C dL_law_32 (by decide) (by decide) (by decide) (by decide) (lj_c_fault C hL hi hB nx)
      by_cases q3 : j = 3
      · subst q3
        exact lj_tabIn (off := 169) (tgt := 201) C dL_law_32 (by decide) (by decide) (by decide) (by decide) (lj_c_lay C hL hi hB nx)
      by_cases q4 : j = 4
      · subst q4
        exact lj_tabIn (off := 182) (tgt := 214) C dL_law_32 (by decide) (by decide) (by decide) (by decide) (lj_c_town C hL hi hB nx)
      by_cases q5 : j = 5
      · subst q5
        exact lj_tabIn (off := 215) (tgt := 247) C dL_law_32 (by decide) (by decide) (by decide) (by decide) (lj_c_between C hL hi hB nx)
      by_cases q6 : j = 6
      · subst q6
        exact lj_tabIn (off := 258) (tgt := 290) C dL_law_32 (by decide) (by decide) (by decide) (by decide) (lj_c_walker C hL hi hB nx)
      by_cases q7 : j = 7
      · subst q7
        exact lj_tabIn (off := 291) (tgt := 323) C dL_law_32 (by decide) (by decide) (by decide) (by decide) (lj_c_report C hL hi hB nx)
      by_cases q8 : j = 8
      · subst q8
        exact lj_tabIn (off := 324) (tgt := 356) C dL_law_32 (by decide) (by decide) (by decide) (by decide) (lj_c_walk C hL hi hB nx)
      by_cases q9 : j = 9
      · subst q9
        exact lj_tabIn (off := 367) (tgt := 399) C dL_law_32 (by decide) (by decide) (by decide) (by decide) (lj_c_strike C hL hi hB nx)
      by_cases q10 : j = 10
      · subst q10
        exact lj_tabIn (off := 390) (tgt := 422) C dL_law_32 (by decide) (by decide) (by decide) (by decide) (lj_c_undo C hL hi hB nx)
      by_cases q11 : j = 11
      · subst q11
        exact lj_tabIn (off := 403) (tgt := 435) C dL_law_32 (by decide) (by decide) (by decide) (by decide) (lj_c_mean C hL hi hB nx)
      by_cases q12 : j = 12
      · subst q12
        exact lj_tabIn (off := 416) (tgt := 448) C dL_law_32 (by decide) (by decide) (by decide) (by decide) (lj_c_all C hL hi hB nx)
      by_cases q13 : j = 13
      · subst q13
        exact lj_tabIn (off := 439) (tgt := 471) C dL_law_32 (by decide) (by decide) (by decide) (by decide) (lj_c_next C hL hi hB nx)
      by_cases q14 : j = 14
      · subst q14
        exact lj_tabIn (off := 472) (tgt := 504) C dL_law_32 (by decide) (by decide) (by decide) (by decide) (lj_c_fewest C hL hi hB nx)
      by_cases q15 : j = 15
      · subst q15
        exact lj_tabIn (off := 505) (tgt := 537) C dL_law_32 (by decide) (by decide) (by decide) (by decide) (lj_c_cancel C hL hi hB nx)
      by_cases q16 : j = 16
      · subst q16
        exact lj_tabIn (off := 538) (tgt := 570) C dL_law_32 (by decide) (by decide) (by decide) (by decide) (lj_c_sail C hL hi hB nx)
      by_cases q17 : j = 17
      · subst q17
        exact lj_tabIn (off := 571) (tgt := 603) C dL_law_32 (by decide) (by decide) (by decide) (by decide) (lj_c_see C hL hi hB nx)
      by_cases q18 : j = 18
      · subst q18
        exact lj_tabIn (off := 624) (tgt := 656) C dL_law_32 (by decide) (by decide) (by decide) (by decide) (lj_c_forget C hL hi hB nx)
      by_cases q19 : j = 19
      · subst q19
        exact lj_tabIn (off := 637) (tgt := 669) C dL_law_32 (by decide) (by decide) (by decide) (by decide) (lj_c_fits C hL hi hB nx)
      by_cases q20 : j = 20
      · subst q20
        exact lj_tabIn (off := 670) (tgt := 702) C dL_law_32 (by decide) (by decide) (by decide) (by decide) (lj_c_towns C hL hi hB nx)
      by_cases q21 : j = 21
      · subst q21
        exact lj_tabIn (off := 693) (tgt := 725) C dL_law_32 (by decide) (by decide) (by decide) (by decide) (lj_c_miscount C hL hi hB nx)
      by_cases q22 : j = 22
      · subst q22
        exact lj_tabIn (off := 736) (tgt := 768) C dL_law_32 (by decide) (by decide) (by decide) (by decide) (lj_c_year C hL hi hB nx)
      by_cases q23 : j = 23
      · subst q23
        exact lj_tabIn (off := 779) (tgt := 811) C dL_law_32 (by decide) (by decide) (by decide) (by decide) (lj_c_keep C hL hi hB nx)
      by_cases q24 : j = 24
      · subst q24
        exact lj_tabIn (off := 792) (tgt := 824) C dL_law_32 (by decide) (by decide) (by decide) (by decide) (lj_c_back C hL hi hB nx)
      by_cases q25 : j = 25
      · subst q25
        exact lj_tabIn (off := 805) (tgt := 837) C dL_law_32 (by decide) (by decide) (by decide) (by decide) (lj_c_count C hL hi hB nx)
      refine lj_tabOut (tgt := 860) C dL_law_32 (Or.inr ?_) (by decide) (nx S σ hB)
      rw [nI_toInt (by omega)]
      omega
    · exact lj_end C hL hi (by omega)
end LP
