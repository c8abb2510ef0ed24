/-! ===== the model's calls that change it ===== -/
theorem ms_sl.re {f g : Nat → Int32} {B B' : sp_Bk} {us ks : List sp_Bk} (h : ms_sl f B us ks) (h8 : us.length ≤ 8) (hu : ∀ u ∈ us, u.1.length ≤ 9) (h2 : ks.length ≤ 2) (hk : ∀ u ∈ ks, u.1.length ≤ 9) (hB : sl_At g 0 B'.1 B'.2) (e : ∀ x, 38 ≤ x → x < 418 → g x = f x) : ms_sl g B' us ks := by
  obtain ⟨h1, hus, hks⟩ := h
  refine ⟨hB, fun i u hi => ?_, fun i u hi => ?_⟩
  · have := (List.getElem?_eq_some_iff.mp hi).1
    exact (hus i u hi).mv (hu u (List.mem_of_getElem? hi)) (fun x hx => e _ (by omega) (by omega))
  · have := (List.getElem?_eq_some_iff.mp hi).1
    exact (hks i u hi).mv (hk u (List.mem_of_getElem? hi)) (fun x hx => e _ (by omega) (by omega))
theorem ms_put {σ τ : ax_S} {S : sp_S} {B : sp_Bk} {us ks : List sp_Bk} {ng nt nw ap bg wr : Int32} {g : Nat → Int32} (hMb : mb_At σ.1 S.2.1) (hNew : mn_Any σ.1) (hTx : mt_At σ.1 S.1.1 S.1.2) (hSg : mg_At σ.1 S.2.2.2.2.2) (G : ∀ q, q ≠ 56 → q ≠ 69 → τ.1 q = σ.1 q) (M_o : τ.1 56 = some (.inr (8, mo_f (nI S.2.1.1) (nI S.2.1.2.1) (nI S.2.1.2.2.1) ng nt nw (nI us.length) (nI ks.length) (nI S.1.1) ap bg wr (nI S.2.2.2.2.2.length)))) (M_slot : τ.1 69 = some (.inl (false, 456, g))) (hsl : ms_sl g B us ks) : ms_At τ.1 (S.1, S.2.1, B, us, ks, S.2.2.2.2.2) :=
  ⟨ng, nt, nw, ap, bg, wr, g, M_o, hMb.on (fun q _ _ => G q (by omega) (by omega)), M_slot, hsl, hNew.on (fun q _ _ => G q (by omega) (by omega)), hTx.on (G 70 (by decide) (by decide)), hSg.on (fun q _ _ => G q (by omega) (by omega))⟩
theorem nb_ok : ∀ c, c < 127 → (nI c).toInt8.toInt32 = nI c := by decide +kernel
section MC
variable {σ : ax_S} {S : sp_S}
theorem y_write (hx : ms_At σ.1 S) (hS : sp_Ok S) (v : Int32) : ax_N mX8_write 8 0 0 [.ref 56, .int v] σ (ms_Po σ (o_write S v)) := by
  obtain ⟨ng, nt, nw, ap, bg, wr, f, M_o, hMb, M_slot, hSl, hNew, hTx, hSg⟩ := id hx
  have hn := hS.1.1
  refine ax_N.of (ls := [some (.ref 56), some (.int v)]) (by decide +kernel) rfl (Nat.le_of_ble_eq_true rfl) ?_
  refine ax_iload_n (pc' := 1) rfl dX8_write_0 rfl ?_
  refine ax_i2l (pc' := 2) dX8_write_1 rfl ?_
  refine ax_ldc2 (pc' := 5) kl_X8_109 dX8_write_2 rfl ?_
  refine ax_ldc2 (pc' := 8) kl_X8_111 dX8_write_5 rfl ?_
  rcases sp_in_cases v (lo := 32) (hi := 126) (by decide) (by decide) with ⟨c, h1, h2, rfl, e⟩ | ⟨hv, e⟩
  · refine ax_callSR (pc' := 11) ls_X8_101 (m_isT (by decide) (by decide) (nI_le h1 (by omega)) (nI_le h2 (by decide))) rfl rfl (Nat.le_of_ble_eq_true rfl) (Nat.le_of_ble_eq_true rfl) dX8_write_8 rfl ?_
    refine ax_if_ne (pc' := 14) (tgt := 16) dX8_write_11 (by decide) rfl (fun _ => ?_) (fun hz => absurd hz (kz_1))
    refine ax_aload_n (pc' := 17) rfl dX8_write_16 rfl ?_
    refine ax_getf (pc' := 20) fl_X8_113 M_o rfl dX8_write_17 rfl ?_
    refine ax_sipush (pc' := 23) (v := (nI 200)) ks_200 dX8_write_20 rfl ?_
    by_cases h200 : S.1.1 < 200
    · obtain ⟨ft, M_text, hft⟩ := hTx
      have ho : o_write S (nI c) = (nI (S.1.1 + 1), ((S.1.1 + 1, sp_up S.1.2 S.1.1 c), S.2)) := by simp [o_write, e, h200]
      rw [ho]
      refine ax_icmp_ne (pc' := 26) (tgt := 29) dX8_write_23 (by decide) rfl (fun _ => ?_) (fun hz => absurd hz (fun h => by have := (nI_eq (by omega) (by omega)).mp h; omega))
      refine ax_aload_n (pc' := 30) rfl dX8_write_29 rfl ?_
      refine ax_getf (pc' := 33) fl_X8_49 M_o rfl dX8_write_30 rfl ?_
      refine ax_aload_n (pc' := 34) rfl dX8_write_33 rfl ?_
      refine ax_getf (pc' := 37) fl_X8_113 M_o rfl dX8_write_34 rfl ?_
      refine ax_iload_n (pc' := 38) rfl dX8_write_37 rfl ?_
      refine ax_i2b (pc' := 39) dX8_write_38 rfl ?_
      refine ax_topi (nb_ok c (by omega)) ?_
      refine ax_basu (pc' := 40) M_text rfl (by omega) (by first | decide | assumption | omega) dX8_write_39 rfl (fun s1 g1 => ?_)
      have M_text := ax_kS g1
      have M_o := ax_kN g1 M_o (by omega)
      have M_slot := ax_kN g1 M_slot (by omega)
      refine ax_aload_n (pc' := 41) rfl dX8_write_40 rfl ?_
      refine ax_dup (pc' := 42) rfl dX8_write_41 rfl ?_
      refine ax_getf (pc' := 45) fl_X8_113 M_o rfl dX8_write_42 rfl ?_
      refine ax_iconst (pc' := 46) (v := (nI 1)) kc_1 dX8_write_45 rfl ?_
      refine ax_iadd (pc' := 47) dX8_write_46 rfl ?_
      refine ax_topi (nI_add _ 1) ?_
      refine ax_putu (pc' := 50) fp_X8_113 M_o rfl (fun _ => ⟨rfl, rfl⟩) dX8_write_47 rfl (fun s2 g2 => ?_)
      have M_o := ax_kS g2
      have M_text := ax_kN g2 M_text (by omega)
      have M_slot := ax_kN g2 M_slot (by omega)
      have G : ∀ q, q ≠ 56 → q ≠ 70 → s2.1 q = σ.1 q := fun q a1 a2 => (ax_kF g2 a1).trans (ax_kF g1 a2)
      refine ax_aload_n (pc' := 51) rfl dX8_write_50 rfl ?_
      refine ax_getf (pc' := 54) fl_X8_113 M_o rfl dX8_write_51 rfl ?_
      refine ax_iret dX8_write_54 rfl (Nat.le_refl 0) (Nat.le_refl 0) ⟨rfl, ⟨ng, nt, nw, ap, bg, wr, f, M_o, hMb.on (fun q _ _ => G q (by omega) (by omega)), M_slot, hSl, hNew.on (fun q _ _ => G q (by omega) (by omega)), ⟨_, M_text, fun i hi => ?_⟩, hSg.on (fun q _ _ => G q (by omega) (by omega))⟩, (ax_fr.rf.up g1 (by omega) (by omega)).up g2 (by omega) (by omega)⟩
      have hvb : vp_nar .byte (nI c) = nI c := by
        have := pk_vb (nI c)
        rw [nb_ok c (by omega)] at this
        exact this
      by_cases e : i = S.1.1
      · simp [upd, sp_up, e, hvb]
      · have hi : i < S.1.1 + 1 := hi
        simp only [upd, sp_up, e, if_false]
        exact hft i (by omega)
    · have ho : o_write S (nI c) = (-3, S) := by simp [o_write, e, h200]
      rw [ho]
      refine ax_icmp_ne (pc' := 26) (tgt := 29) dX8_write_23 (by decide) rfl (fun hz => absurd (by rw [show S.1.1 = 200 by omega]) hz) (fun _ => ?_)
      refine ax_bipush (pc' := 28) (v := (-3)) kb_m3 dX8_write_26 rfl ?_
      exact ax_iret dX8_write_28 rfl (Nat.le_of_ble_eq_true rfl) (Nat.le_of_ble_eq_true rfl) (⟨rfl, hx, ax_fr.rf⟩)
  · have ho : o_write S v = (-1, S) := by simp [o_write, e]
    rw [ho]
    refine ax_callSR (pc' := 11) ls_X8_101 (m_isF (by decide) (by decide) hv) rfl rfl (Nat.le_of_ble_eq_true rfl) (Nat.le_of_ble_eq_true rfl) dX8_write_8 rfl ?_
    refine ax_if_ne (pc' := 14) (tgt := 16) dX8_write_11 (by decide) rfl (fun hz => absurd (kz_0) hz) (fun _ => ?_)
    refine ax_iconst (pc' := 15) (v := (-1)) kc_m1 dX8_write_14 rfl ?_
    exact ax_iret dX8_write_15 rfl (Nat.le_of_ble_eq_true rfl) (Nat.le_of_ble_eq_true rfl) (⟨rfl, hx, ax_fr.rf⟩)
theorem y_wipe (hx : ms_At σ.1 S) (hS : sp_Ok S) : ax_N mX8_wipe 8 0 0 [.ref 56] σ (ms_Po σ (o_wipe S)) := by
  obtain ⟨ng, nt, nw, ap, bg, wr, f, M_o, hMb, M_slot, hSl, hNew, hTx, hSg⟩ := id hx
  refine ax_N.of (ls := [some (.ref 56), none]) (by decide +kernel) rfl (Nat.le_of_ble_eq_true rfl) ?_
  refine ax_aload_n (pc' := 1) rfl dX8_wipe_0 rfl ?_
  refine ax_getf (pc' := 4) fl_X8_113 M_o rfl dX8_wipe_1 rfl ?_
  refine ax_istore_n (pc' := 5) rfl (Nat.le_of_ble_eq_true rfl) dX8_wipe_4 rfl ?_
  refine ax_aload_n (pc' := 6) rfl dX8_wipe_5 rfl ?_
  refine ax_iconst (pc' := 7) (v := (nI 0)) kc_0 dX8_wipe_6 rfl ?_
  refine ax_putu (pc' := 10) fp_X8_113 M_o rfl (fun _ => ⟨rfl, rfl⟩) dX8_wipe_7 rfl (fun s1 g1 => ?_)
  have M_o := ax_kS g1
  have M_slot := ax_kN g1 M_slot (by omega)
  have G : ∀ q, q ≠ 56 → s1.1 q = σ.1 q := fun q a1 => ax_kF g1 a1
  obtain ⟨ft, M_text, hft⟩ := hTx
  refine ax_iload_n (pc' := 11) rfl dX8_wipe_10 rfl ?_
  exact ax_iret dX8_wipe_11 rfl (Nat.le_of_ble_eq_true rfl) (Nat.le_of_ble_eq_true rfl) (⟨rfl, ⟨ng, nt, nw, ap, bg, wr, f, M_o, hMb.on (fun q _ _ => G q (by omega)), M_slot, hSl, hNew.on (fun q _ _ => G q (by omega)), ⟨ft, (G 70 (by decide)).trans M_text, fun i hi => absurd hi (Nat.not_lt_zero _)⟩, hSg.on (fun q _ _ => G q (by omega))⟩, ax_fr.rf.up g1 (by omega) (by omega)⟩)
theorem y_forget (hx : ms_At σ.1 S) (hS : sp_Ok S) : ax_N mX8_forget 8 0 0 [.ref 56] σ (ms_Po σ (o_forget S)) := by
  obtain ⟨ng, nt, nw, ap, bg, wr, f, M_o, hMb, M_slot, hSl, hNew, hTx, hSg⟩ := id hx
  refine ax_N.of (ls := [some (.ref 56), none]) (by decide +kernel) rfl (Nat.le_of_ble_eq_true rfl) ?_
  refine ax_aload_n (pc' := 1) rfl dX8_forget_0 rfl ?_
  refine ax_getf (pc' := 4) fl_X8_155 M_o rfl dX8_forget_1 rfl ?_
  refine ax_istore_n (pc' := 5) rfl (Nat.le_of_ble_eq_true rfl) dX8_forget_4 rfl ?_
  refine ax_aload_n (pc' := 6) rfl dX8_forget_5 rfl ?_
  refine ax_iconst (pc' := 7) (v := (nI 0)) kc_0 dX8_forget_6 rfl ?_
  refine ax_putu (pc' := 10) fp_X8_155 M_o rfl (fun _ => ⟨rfl, rfl⟩) dX8_forget_7 rfl (fun s1 g1 => ?_)
  have M_o := ax_kS g1
  have M_slot := ax_kN g1 M_slot (by omega)
  have G : ∀ q, q ≠ 56 → s1.1 q = σ.1 q := fun q a1 => ax_kF g1 a1
  obtain ⟨gw, gf, gt, gs, a1, a2, a3, a4, -⟩ := hSg
  refine ax_iload_n (pc' := 11) rfl dX8_forget_10 rfl ?_
  exact ax_iret dX8_forget_11 rfl (Nat.le_of_ble_eq_true rfl) (Nat.le_of_ble_eq_true rfl) (⟨rfl, ⟨ng, nt, nw, ap, bg, wr, f, M_o, hMb.on (fun q _ _ => G q (by omega)), M_slot, hSl, hNew.on (fun q _ _ => G q (by omega)), hTx.on (G 70 (by decide)), ⟨gw, gf, gt, gs, (G _ (by decide)).trans a1, (G _ (by decide)).trans a2, (G _ (by decide)).trans a3, (G _ (by decide)).trans a4, fun i hi => absurd hi (Nat.not_lt_zero _)⟩⟩, ax_fr.rf.up g1 (by omega) (by omega)⟩)
theorem y_see (hx : ms_At σ.1 S) (hS : sp_Ok S) (v u t n : Int32) : ax_N mX8_see 8 0 0 [.ref 56, .int v, .int u, .int t, .int n] σ (ms_Po σ (o_see S v u t n)) := by
  obtain ⟨ng, nt, nw, ap, bg, wr, f, M_o, hMb, M_slot, hSl, hNew, hTx, hSg⟩ := id hx
  have hM : ml_At σ.1 S.2.1 f := ⟨⟨ng, nt, nw, _, _, _, ap, bg, wr, _, M_o⟩, hMb, M_slot⟩
  have hb := hS.2.1
  have h6 := hb.2.1
  have h4 := hb.2.2.1
  have hs6 := hS.2.2.2.2.2.2.2.2.1
  refine ax_N.of (ls := [some (.ref 56), some (.int v), some (.int u), some (.int t), some (.int n)]) (by decide +kernel) rfl (Nat.le_of_ble_eq_true rfl) ?_
  have NO : ∀ zz, o_see S v u t n = (-1, S) → ax_J (mX8_see, 8, 0, 0) 0 0 30 zz [] σ (ms_Po σ (o_see S v u t n)) := by
    intro zz ho
    rw [ho]
    refine ax_iconst (pc' := 31) (v := (-1)) kc_m1 dX8_see_30 rfl ?_
    exact ax_iret dX8_see_31 rfl (Nat.le_of_ble_eq_true rfl) (Nat.le_of_ble_eq_true rfl) (⟨rfl, hx, ax_fr.rf⟩)
  refine ax_aload_n (pc' := 1) rfl dX8_see_0 rfl ?_
  refine ax_iload_n (pc' := 2) rfl dX8_see_1 rfl ?_
  rcases sp_ix_cases v (n := S.2.1.2.2.1) (by omega) with ⟨w, hw, rfl, e1⟩ | ⟨hv, e1⟩
  · refine ax_callVR (pc' := 5) lv_X8_183 (m_isWalkerT hM hb hw) M_o rfl rfl (Nat.le_of_ble_eq_true rfl) (Nat.le_of_ble_eq_true rfl) dX8_see_2 rfl ?_
    refine ax_if_eq (pc' := 8) (tgt := 30) dX8_see_5 (by decide) rfl (fun hz => absurd hz (kz_1)) (fun _ => ?_)
    refine ax_aload_n (pc' := 9) rfl dX8_see_8 rfl ?_
    refine ax_iload_n (pc' := 10) rfl dX8_see_9 rfl ?_
    refine ax_iload_n (pc' := 11) rfl dX8_see_10 rfl ?_
    rcases sp_two_cases u t (n := S.2.1.2.1) (by omega) with ⟨a, c, ha, hc, hac, rfl, rfl, e2⟩ | ⟨hu, e2⟩
    · refine ax_callVR (pc' := 14) lv_X8_171 (m_areTownsT hM hb ha hc hac) M_o rfl rfl (Nat.le_of_ble_eq_true rfl) (Nat.le_of_ble_eq_true rfl) dX8_see_11 rfl ?_
      refine ax_if_eq (pc' := 17) (tgt := 30) dX8_see_14 (by decide) rfl (fun hz => absurd hz (kz_1)) (fun _ => ?_)
      refine ax_iload (pc' := 19) rfl dX8_see_17 rfl ?_
      refine ax_i2l (pc' := 20) dX8_see_19 rfl ?_
      refine ax_lconst (pc' := 21) (v := lN 0) rfl dX8_see_20 rfl ?_
      refine ax_ldc2 (pc' := 24) kl_X8_258 dX8_see_21 rfl ?_
      rcases sp_in_cases n (lo := 0) (hi := 9999) (by decide) (by decide) with ⟨m, h1, hm, rfl, e3⟩ | ⟨hn, e3⟩
      · refine ax_callSR (pc' := 27) ls_X8_101 (m_isT (by decide) (by decide) (nI_le h1 (by omega)) (nI_le hm (by decide))) rfl rfl (Nat.le_of_ble_eq_true rfl) (Nat.le_of_ble_eq_true rfl) dX8_see_24 rfl ?_
        refine ax_if_ne (pc' := 30) (tgt := 32) dX8_see_27 (by decide) rfl (fun _ => ?_) (fun hz => absurd hz (kz_1))
        refine ax_aload_n (pc' := 33) rfl dX8_see_32 rfl ?_
        refine ax_getf (pc' := 36) fl_X8_155 M_o rfl dX8_see_33 rfl ?_
        refine ax_bipush (pc' := 38) (v := (nI 6)) kb_6 dX8_see_36 rfl ?_
        by_cases hl : S.2.2.2.2.2.length < 6
        · have ho : o_see S (nI w) (nI a) (nI c) (nI m) = (nI (S.2.2.2.2.2.length + 1), (S.1, S.2.1, S.2.2.1, S.2.2.2.1, S.2.2.2.2.1, S.2.2.2.2.2 ++ [(w, a, c, m)])) := by simp [o_see, e1, e2, e3, hl]
          rw [ho]
          obtain ⟨gw, gf, gt, gs, M_sawWho, M_sawFrom, M_sawTo, M_sawMany, hg⟩ := hSg
          refine ax_icmp_ne (pc' := 41) (tgt := 44) dX8_see_38 (by decide) rfl (fun _ => ?_) (fun hz => absurd hz (fun h => by have := (nI_eq (by omega) (by decide)).mp h; omega))
          refine ax_aload_n (pc' := 45) rfl dX8_see_44 rfl ?_
          refine ax_getf (pc' := 48) fl_X8_53 M_o rfl dX8_see_45 rfl ?_
          refine ax_aload_n (pc' := 49) rfl dX8_see_48 rfl ?_
          refine ax_getf (pc' := 52) fl_X8_155 M_o rfl dX8_see_49 rfl ?_
          refine ax_iload_n (pc' := 53) rfl dX8_see_52 rfl ?_
          refine ax_iasu (pc' := 54) M_sawWho rfl (hl) (by first | decide | assumption | omega) dX8_see_53 rfl (fun s1 g1 => ?_)
          have M_sawWho := ax_kS g1
          have M_o := ax_kN g1 M_o (by omega)
          have M_slot := ax_kN g1 M_slot (by omega)
          have M_sawFrom := ax_kN g1 M_sawFrom (by omega)
          have M_sawTo := ax_kN g1 M_sawTo (by omega)
          have M_sawMany := ax_kN g1 M_sawMany (by omega)
          refine ax_aload_n (pc' := 55) rfl dX8_see_54 rfl ?_
          refine ax_getf (pc' := 58) fl_X8_56 M_o rfl dX8_see_55 rfl ?_
          refine ax_aload_n (pc' := 59) rfl dX8_see_58 rfl ?_
          refine ax_getf (pc' := 62) fl_X8_155 M_o rfl dX8_see_59 rfl ?_
          refine ax_iload_n (pc' := 63) rfl dX8_see_62 rfl ?_
          refine ax_iasu (pc' := 64) M_sawFrom rfl (hl) (by first | decide | assumption | omega) dX8_see_63 rfl (fun s2 g2 => ?_)
          have M_sawFrom := ax_kS g2
          have M_o := ax_kN g2 M_o (by omega)
          have M_slot := ax_kN g2 M_slot (by omega)
          have M_sawWho := ax_kN g2 M_sawWho (by omega)
          have M_sawTo := ax_kN g2 M_sawTo (by omega)
          have M_sawMany := ax_kN g2 M_sawMany (by omega)
          refine ax_aload_n (pc' := 65) rfl dX8_see_64 rfl ?_
          refine ax_getf (pc' := 68) fl_X8_59 M_o rfl dX8_see_65 rfl ?_
          refine ax_aload_n (pc' := 69) rfl dX8_see_68 rfl ?_
          refine ax_getf (pc' := 72) fl_X8_155 M_o rfl dX8_see_69 rfl ?_
          refine ax_iload_n (pc' := 73) rfl dX8_see_72 rfl ?_
          refine ax_iasu (pc' := 74) M_sawTo rfl (hl) (by first | decide | assumption | omega) dX8_see_73 rfl (fun s3 g3 => ?_)
          have M_sawTo := ax_kS g3
          have M_o := ax_kN g3 M_o (by omega)
          have M_slot := ax_kN g3 M_slot (by omega)
          have M_sawWho := ax_kN g3 M_sawWho (by omega)
          have M_sawFrom := ax_kN g3 M_sawFrom (by omega)
          have M_sawMany := ax_kN g3 M_sawMany (by omega)
          refine ax_aload_n (pc' := 75) rfl dX8_see_74 rfl ?_
          refine ax_getf (pc' := 78) fl_X8_62 M_o rfl dX8_see_75 rfl ?_
          refine ax_aload_n (pc' := 79) rfl dX8_see_78 rfl ?_
          refine ax_getf (pc' := 82) fl_X8_155 M_o rfl dX8_see_79 rfl ?_
          refine ax_iload (pc' := 84) rfl dX8_see_82 rfl ?_
          refine ax_iasu (pc' := 85) M_sawMany rfl (hl) (by first | decide | assumption | omega) dX8_see_84 rfl (fun s4 g4 => ?_)
          have M_sawMany := ax_kS g4
          have M_o := ax_kN g4 M_o (by omega)
          have M_slot := ax_kN g4 M_slot (by omega)
          have M_sawWho := ax_kN g4 M_sawWho (by omega)
          have M_sawFrom := ax_kN g4 M_sawFrom (by omega)
          have M_sawTo := ax_kN g4 M_sawTo (by omega)
          refine ax_aload_n (pc' := 86) rfl dX8_see_85 rfl ?_
          refine ax_dup (pc' := 87) rfl dX8_see_86 rfl ?_
          refine ax_getf (pc' := 90) fl_X8_155 M_o rfl dX8_see_87 rfl ?_
          refine ax_iconst (pc' := 91) (v := (nI 1)) kc_1 dX8_see_90 rfl ?_
          refine ax_iadd (pc' := 92) dX8_see_91 rfl ?_
          refine ax_topi (nI_add _ 1) ?_
          refine ax_putu (pc' := 95) fp_X8_155 M_o rfl (fun _ => ⟨rfl, rfl⟩) dX8_see_92 rfl (fun s5 g5 => ?_)
          have M_o := ax_kS g5
          have M_slot := ax_kN g5 M_slot (by omega)
          have M_sawWho := ax_kN g5 M_sawWho (by omega)
          have M_sawFrom := ax_kN g5 M_sawFrom (by omega)
          have M_sawTo := ax_kN g5 M_sawTo (by omega)
          have M_sawMany := ax_kN g5 M_sawMany (by omega)
          have G : ∀ q, q ≠ 56 → (q < 71 ∨ 75 ≤ q) → s5.1 q = σ.1 q := fun q a1 a2 => (ax_kF g5 a1).trans ((ax_kF g4 (by omega)).trans ((ax_kF g3 (by omega)).trans ((ax_kF g2 (by omega)).trans (ax_kF g1 (by omega)))))
          have hlen : (S.2.2.2.2.2 ++ [(w, a, c, m)]).length = S.2.2.2.2.2.length + 1 := by simp
          refine ax_aload_n (pc' := 96) rfl dX8_see_95 rfl ?_
          refine ax_getf (pc' := 99) fl_X8_155 M_o rfl dX8_see_96 rfl ?_
          refine ax_iret dX8_see_99 rfl (Nat.le_refl 0) (Nat.le_refl 0) ⟨rfl, ⟨ng, nt, nw, ap, bg, wr, f, by rw [hlen]; exact M_o, hMb.on (fun q _ _ => G q (by omega) (by omega)), M_slot, hSl, hNew.on (fun q _ _ => G q (by omega) (by omega)), hTx.on (G 70 (by decide) (by decide)), ⟨_, _, _, _, M_sawWho, M_sawFrom, M_sawTo, M_sawMany, fun i hi => ?_⟩⟩, ((((ax_fr.rf.up g1 (by omega) (by omega)).up g2 (by omega) (by omega)).up g3 (by omega) (by omega)).up g4 (by omega) (by omega)).up g5 (by omega) (by omega)⟩
          dsimp only at hi ⊢
          rw [sp_at_snoc hi]
          rw [hlen] at hi
          by_cases e : i = S.2.2.2.2.2.length
          · simp [upd, e]
          · simp only [upd, e, if_false]
            exact hg i (by omega)
        · have ho : o_see S (nI w) (nI a) (nI c) (nI m) = (-3, S) := by simp [o_see, e1, e2, e3, hl]
          rw [ho]
          refine ax_icmp_ne (pc' := 41) (tgt := 44) dX8_see_38 (by decide) rfl (fun hz => absurd (by rw [show S.2.2.2.2.2.length = 6 by omega]) hz) (fun _ => ?_)
          refine ax_bipush (pc' := 43) (v := (-3)) kb_m3 dX8_see_41 rfl ?_
          exact ax_iret dX8_see_43 rfl (Nat.le_of_ble_eq_true rfl) (Nat.le_of_ble_eq_true rfl) (⟨rfl, hx, ax_fr.rf⟩)
      · refine ax_callSR (pc' := 27) ls_X8_101 (m_isF (by decide) (by decide) hn) rfl rfl (Nat.le_of_ble_eq_true rfl) (Nat.le_of_ble_eq_true rfl) dX8_see_24 rfl ?_
        refine ax_if_ne (pc' := 30) (tgt := 32) dX8_see_27 (by decide) rfl (fun hz => absurd (kz_0) hz) (fun _ => ?_)
        exact NO _ (by simp [o_see, e1, e2, e3])
    · refine ax_callVR (pc' := 14) lv_X8_171 (m_areTownsF hM hb hu) M_o rfl rfl (Nat.le_of_ble_eq_true rfl) (Nat.le_of_ble_eq_true rfl) dX8_see_11 rfl ?_
      refine ax_if_eq (pc' := 17) (tgt := 30) dX8_see_14 (by decide) rfl (fun _ => ?_) (fun hz => absurd (kz_0) hz)
      exact NO _ (by simp [o_see, e1, e2])
  · refine ax_callVR (pc' := 5) lv_X8_183 (m_isWalkerF hM hb hv) M_o rfl rfl (Nat.le_of_ble_eq_true rfl) (Nat.le_of_ble_eq_true rfl) dX8_see_2 rfl ?_
    refine ax_if_eq (pc' := 8) (tgt := 30) dX8_see_5 (by decide) rfl (fun _ => ?_) (fun hz => absurd (kz_0) hz)
    exact NO _ (by simp [o_see, e1])
theorem y_walk (hx : ms_At σ.1 S) (hS : sp_Ok S) (v u t : Int32) : ax_N mX8_walk 8 0 0 [.ref 56, .int v, .int u, .int t] σ (ms_Po σ (o_walk S v u t)) := by
  obtain ⟨ng, nt, nw, ap, bg, wr, f, M_o, hMb, M_slot, hSl, hNew, hTx, hSg⟩ := id hx
  have hM : ml_At σ.1 S.2.1 f := ⟨⟨ng, nt, nw, _, _, _, ap, bg, wr, _, M_o⟩, hMb, M_slot⟩
  have hb := hS.2.1
  have h6 := hb.2.1
  have h4 := hb.2.2.1
  have hk := hS.2.2.2.1
  have h9 := hk.1
  have hKn := m_known hx hS
  refine ax_N.of (ls := [some (.ref 56), some (.int v), some (.int u), some (.int t)]) (by decide +kernel) rfl (Nat.le_of_ble_eq_true rfl) ?_
  have NO : ∀ zz, o_walk S v u t = (-1, S) → ax_J (mX8_walk, 8, 0, 0) 0 0 17 zz [] σ (ms_Po σ (o_walk S v u t)) := by
    intro zz ho
    rw [ho]
    refine ax_iconst (pc' := 18) (v := (-1)) kc_m1 dX8_walk_17 rfl ?_
    exact ax_iret dX8_walk_18 rfl (Nat.le_of_ble_eq_true rfl) (Nat.le_of_ble_eq_true rfl) (⟨rfl, hx, ax_fr.rf⟩)
  refine ax_aload_n (pc' := 1) rfl dX8_walk_0 rfl ?_
  refine ax_iload_n (pc' := 2) rfl dX8_walk_1 rfl ?_
  rcases sp_ix_cases v (n := S.2.1.2.2.1) (by omega) with ⟨w, hw, rfl, e1⟩ | ⟨hv, e1⟩
  · refine ax_callVR (pc' := 5) lv_X8_183 (m_isWalkerT hM hb hw) M_o rfl rfl (Nat.le_of_ble_eq_true rfl) (Nat.le_of_ble_eq_true rfl) dX8_walk_2 rfl ?_
    refine ax_if_eq (pc' := 8) (tgt := 17) dX8_walk_5 (by decide) rfl (fun hz => absurd hz (kz_1)) (fun _ => ?_)
    refine ax_aload_n (pc' := 9) rfl dX8_walk_8 rfl ?_
    refine ax_iload_n (pc' := 10) rfl dX8_walk_9 rfl ?_
    refine ax_iload_n (pc' := 11) rfl dX8_walk_10 rfl ?_
    rcases sp_two_cases u t (n := S.2.1.2.1) (by omega) with ⟨a, c, ha, hc, hac, rfl, rfl, e2⟩ | ⟨hu, e2⟩
    · refine ax_callVR (pc' := 14) lv_X8_171 (m_areTownsT hM hb ha hc hac) M_o rfl rfl (Nat.le_of_ble_eq_true rfl) (Nat.le_of_ble_eq_true rfl) dX8_walk_11 rfl ?_
      refine ax_if_ne (pc' := 17) (tgt := 19) dX8_walk_14 (by decide) rfl (fun _ => ?_) (fun hz => absurd hz (kz_1))
      refine ax_aload_n (pc' := 20) rfl dX8_walk_19 rfl ?_
      refine ax_getf (pc' := 23) fl_X8_46 M_o rfl dX8_walk_20 rfl ?_
      refine ax_bipush (pc' := 25) (v := (nI 36)) kb_36 dX8_walk_23 rfl ?_
      refine ax_iald (pc' := 26) M_slot rfl (by omega) (by first | decide | assumption | omega) dX8_walk_25 rfl ?_
      refine ax_topi hSl.1.1 ?_
      refine ax_bipush (pc' := 28) (v := (nI 9)) kb_9 dX8_walk_26 rfl ?_
      by_cases hl : S.2.2.1.1.length < 9
      · have ho : o_walk S (nI w) (nI a) (nI c) = (nI (sp_wk S.2.1 S.2.2.1.1 w a c).2.2.2, (S.1, S.2.1, (S.2.2.1.1 ++ [sp_wk S.2.1 S.2.2.1.1 w a c], S.2.2.1.2 + sp_days S.2.1 w a c), sp_mk S.2.2.2.1 ++ [S.2.2.1], S.2.2.2.2)) := by simp [o_walk, e1, e2, hl]
        rw [ho]
        have hS2 := ok_push hS hk
        refine ax_icmp_ne (pc' := 31) (tgt := 34) dX8_walk_28 (by decide) rfl (fun _ => ?_) (fun hz => absurd hz (fun h => by have := (nI_eq (by omega) (by decide)).mp h; omega))
        refine ax_aload_n (pc' := 35) rfl dX8_walk_34 rfl ?_
        refine ax_callVG (pc' := 38) lv_X8_221 (hKn) M_o rfl rfl (Nat.le_of_ble_eq_true rfl) (Nat.le_of_ble_eq_true rfl) dX8_walk_35 rfl (fun r σ' hr => ?_)
        obtain ⟨rfl, hx2, hF⟩ := hr
        obtain ⟨ng, nt, nw, ap, bg, wr, f, M_o, hMb, M_slot, hSl, hNew, hTx, hSg⟩ := id hx2
        have hM2 : ml_At σ'.1 S.2.1 f := ⟨⟨ng, nt, nw, _, _, _, ap, bg, wr, _, M_o⟩, hMb, M_slot⟩
        refine ax_aload_n (pc' := 39) rfl dX8_walk_38 rfl ?_
        refine ax_iconst (pc' := 40) (v := (nI 0)) kc_0 dX8_walk_39 rfl ?_
        refine ax_iload_n (pc' := 41) rfl dX8_walk_40 rfl ?_
        refine ax_iload_n (pc' := 42) rfl dX8_walk_41 rfl ?_
        refine ax_iload_n (pc' := 43) rfl dX8_walk_42 rfl ?_
        refine ax_callVG (pc' := 46) lv_X8_224 (m_walks (p := 0) hM2 hb hSl.1 (by decide) hk hl hw ha hc) M_o rfl rfl (Nat.le_of_ble_eq_true rfl) (Nat.le_of_ble_eq_true rfl) dX8_walk_43 rfl (fun r3 s3 hr3 => ?_)
        obtain ⟨rfl, g, h3, hL3, hg3⟩ := hr3
        have M_o := ax_kN h3 M_o (by decide)
        refine ax_iret dX8_walk_46 rfl (Nat.le_refl 0) (Nat.le_refl 0) ⟨rfl, ?_, hF.up h3 (by omega) (by omega)⟩
        exact ms_put (S := (S.1, S.2.1, S.2.2.1, sp_mk S.2.2.2.1 ++ [S.2.2.1], S.2.2.2.2)) (B := (S.2.2.1.1 ++ [sp_wk S.2.1 S.2.2.1.1 w a c], S.2.2.1.2 + sp_days S.2.1 w a c)) hMb hNew hTx hSg (fun q _ a2 => ax_kF h3 a2) M_o (ax_kS h3) (hSl.re hS2.2.2.2.2.1 (fun u hu => (hS2.2.2.2.2.2.1 u hu).1) hS2.2.2.2.2.2.2.1 (fun u hu => (hS2.2.2.2.2.2.2.2.1 u hu).1) hL3 (fun x a1 _ => hg3 x (by omega)))
      · have ho : o_walk S (nI w) (nI a) (nI c) = (-3, S) := by simp [o_walk, e1, e2, hl]
        rw [ho]
        refine ax_icmp_ne (pc' := 31) (tgt := 34) dX8_walk_28 (by decide) rfl (fun hz => absurd (by rw [show S.2.2.1.1.length = 9 by omega]) hz) (fun _ => ?_)
        refine ax_bipush (pc' := 33) (v := (-3)) kb_m3 dX8_walk_31 rfl ?_
        exact ax_iret dX8_walk_33 rfl (Nat.le_of_ble_eq_true rfl) (Nat.le_of_ble_eq_true rfl) (⟨rfl, hx, ax_fr.rf⟩)
    · refine ax_callVR (pc' := 14) lv_X8_171 (m_areTownsF hM hb hu) M_o rfl rfl (Nat.le_of_ble_eq_true rfl) (Nat.le_of_ble_eq_true rfl) dX8_walk_11 rfl ?_
      refine ax_if_ne (pc' := 17) (tgt := 19) dX8_walk_14 (by decide) rfl (fun hz => absurd (kz_0) hz) (fun _ => ?_)
      exact NO _ (by simp [o_walk, e1, e2])
  · refine ax_callVR (pc' := 5) lv_X8_183 (m_isWalkerF hM hb hv) M_o rfl rfl (Nat.le_of_ble_eq_true rfl) (Nat.le_of_ble_eq_true rfl) dX8_walk_2 rfl ?_
    refine ax_if_eq (pc' := 8) (tgt := 17) dX8_walk_5 (by decide) rfl (fun _ => ?_) (fun hz => absurd (kz_0) hz)
    exact NO _ (by simp [o_walk, e1])
theorem y_strike (hx : ms_At σ.1 S) (hS : sp_Ok S) (v : Int32) : ax_N mX8_strike 8 0 0 [.ref 56, .int v] σ (ms_Po σ (o_strike S v)) := by
  obtain ⟨ng, nt, nw, ap, bg, wr, f, M_o, hMb, M_slot, hSl, hNew, hTx, hSg⟩ := id hx
  have hM : ml_At σ.1 S.2.1 f := ⟨⟨ng, nt, nw, _, _, _, ap, bg, wr, _, M_o⟩, hMb, M_slot⟩
  have hk := hS.2.2.2.1
  have h9 := hk.1
  have hKn := m_known hx hS
  refine ax_N.of (ls := [some (.ref 56), some (.int v)]) (by decide +kernel) rfl (Nat.le_of_ble_eq_true rfl) ?_
  refine ax_aload_n (pc' := 1) rfl dX8_strike_0 rfl ?_
  refine ax_iload_n (pc' := 2) rfl dX8_strike_1 rfl ?_
  rcases sp_ix_cases v (n := S.2.2.1.1.length) (by omega) with ⟨r, hr, rfl, e1⟩ | ⟨hv, e1⟩
  · have ho : o_strike S (nI r) = (nI (S.2.2.1.1.length - 1), (S.1, S.2.1, (sp_del S.2.2.1.1 r, S.2.2.1.2), sp_mk S.2.2.2.1 ++ [S.2.2.1], S.2.2.2.2)) := by simp [o_strike, e1]
    rw [ho]
    have hS2 := ok_push hS hk
    refine ax_callVR (pc' := 5) lv_X8_203 (m_isReportT hM hSl.1 h9 hr) M_o rfl rfl (Nat.le_of_ble_eq_true rfl) (Nat.le_of_ble_eq_true rfl) dX8_strike_2 rfl ?_
    refine ax_if_ne (pc' := 8) (tgt := 10) dX8_strike_5 (by decide) rfl (fun _ => ?_) (fun hz => absurd hz (kz_1))
    refine ax_aload_n (pc' := 11) rfl dX8_strike_10 rfl ?_
    refine ax_callVG (pc' := 14) lv_X8_221 hKn M_o rfl rfl (Nat.le_of_ble_eq_true rfl) (Nat.le_of_ble_eq_true rfl) dX8_strike_11 rfl (fun r2 s2 hr2 => ?_)
    obtain ⟨rfl, hx2, hF⟩ := hr2
    obtain ⟨ng, nt, nw, ap, bg, wr, f, M_o, hMb, M_slot, hSl, hNew, hTx, hSg⟩ := id hx2
    have hM2 : ml_At s2.1 S.2.1 f := ⟨⟨ng, nt, nw, _, _, _, ap, bg, wr, _, M_o⟩, hMb, M_slot⟩
    refine ax_aload_n (pc' := 15) rfl dX8_strike_14 rfl ?_
    refine ax_iconst (pc' := 16) (v := (nI 0)) kc_0 dX8_strike_15 rfl ?_
    refine ax_iload_n (pc' := 17) rfl dX8_strike_16 rfl ?_
    refine ax_callVG (pc' := 20) lv_X8_227 (m_strikes (p := 0) hM2 hSl.1 (by decide) h9 hr) M_o rfl rfl (Nat.le_of_ble_eq_true rfl) (Nat.le_of_ble_eq_true rfl) dX8_strike_17 rfl (fun r3 s3 hr3 => ?_)
    obtain ⟨rfl, g, h3, hL3, hg3⟩ := hr3
    have M_o := ax_kN h3 M_o (by decide)
    have M_slot := ax_kS h3
    refine ax_aload_n (pc' := 21) rfl dX8_strike_20 rfl ?_
    refine ax_getf (pc' := 24) fl_X8_46 M_o rfl dX8_strike_21 rfl ?_
    refine ax_bipush (pc' := 26) (v := (nI 36)) kb_36 dX8_strike_24 rfl ?_
    refine ax_iald (pc' := 27) M_slot rfl (by omega) (by first | decide | assumption | omega) dX8_strike_26 rfl ?_
    refine ax_topi (v' := nI (S.2.2.1.1.length - 1)) (by rw [← sp_del_len hr]; exact hL3.1) ?_
    refine ax_iret dX8_strike_27 rfl (Nat.le_refl 0) (Nat.le_refl 0) ⟨rfl, ?_, hF.up h3 (by omega) (by omega)⟩
    exact ms_put (S := (S.1, S.2.1, S.2.2.1, sp_mk S.2.2.2.1 ++ [S.2.2.1], S.2.2.2.2)) (B := (sp_del S.2.2.1.1 r, S.2.2.1.2)) hMb hNew hTx hSg (fun q _ a2 => ax_kF h3 a2) M_o (ax_kS h3) (hSl.re hS2.2.2.2.2.1 (fun u hu => (hS2.2.2.2.2.2.1 u hu).1) hS2.2.2.2.2.2.2.1 (fun u hu => (hS2.2.2.2.2.2.2.2.1 u hu).1) hL3 (fun x a1 _ => hg3 x (by omega)))
  · have ho : o_strike S v = (-1, S) := by simp [o_strike, e1]
    rw [ho]
    refine ax_callVR (pc' := 5) lv_X8_203 (m_isReportF hM hSl.1 h9 hv) M_o rfl rfl (Nat.le_of_ble_eq_true rfl) (Nat.le_of_ble_eq_true rfl) dX8_strike_2 rfl ?_
    refine ax_if_ne (pc' := 8) (tgt := 10) dX8_strike_5 (by decide) rfl (fun hz => absurd (kz_0) hz) (fun _ => ?_)
    refine ax_iconst (pc' := 9) (v := (-1)) kc_m1 dX8_strike_8 rfl ?_
    exact ax_iret dX8_strike_9 rfl (Nat.le_of_ble_eq_true rfl) (Nat.le_of_ble_eq_true rfl) (⟨rfl, hx, ax_fr.rf⟩)
theorem y_undo (hx : ms_At σ.1 S) (hS : sp_Ok S) : ax_N mX8_undo 8 0 0 [.ref 56] σ (ms_Po σ (o_undo S)) := by
  obtain ⟨ng, nt, nw, ap, bg, wr, f, M_o, hMb, M_slot, hSl, hNew, hTx, hSg⟩ := id hx
  have hM : ml_At σ.1 S.2.1 f := ⟨⟨ng, nt, nw, _, _, _, ap, bg, wr, _, M_o⟩, hMb, M_slot⟩
  have h8 := hS.2.2.2.2.1
  refine ax_N.of (ls := [some (.ref 56)]) (by decide +kernel) rfl (Nat.le_of_ble_eq_true rfl) ?_
  refine ax_aload_n (pc' := 1) rfl dX8_undo_0 rfl ?_
  refine ax_getf (pc' := 4) fl_X8_149 M_o rfl dX8_undo_1 rfl ?_
  by_cases hl : S.2.2.2.1.length = 0
  · have ho : o_undo S = (-2, S) := by simp [o_undo, hl]
    rw [ho]
    refine ax_if_ne (pc' := 7) (tgt := 10) dX8_undo_4 (by decide) rfl (fun hz => absurd (by rw [hl]; exact kz_0) hz) (fun _ => ?_)
    refine ax_bipush (pc' := 9) (v := (-2)) kb_m2 dX8_undo_7 rfl ?_
    exact ax_iret dX8_undo_9 rfl (Nat.le_of_ble_eq_true rfl) (Nat.le_of_ble_eq_true rfl) (⟨rfl, hx, ax_fr.rf⟩)
  · obtain ⟨j, hj⟩ : ∃ j, S.2.2.2.1.length = j + 1 := ⟨S.2.2.2.1.length - 1, by omega⟩
    have hjl : j < S.2.2.2.1.length := by omega
    obtain ⟨B, hB⟩ : ∃ B, B = S.2.2.2.1.getD j S.2.2.1 := ⟨_, rfl⟩
    have hge : S.2.2.2.1[j]? = some B := by
      rw [hB, List.getD_eq_getElem?_getD, List.getElem?_eq_getElem hjl]
      rfl
    have ho : o_undo S = (nI j, (S.1, S.2.1, B, S.2.2.2.1.take j, S.2.2.2.2)) := by
      rw [o_undo, if_neg hl, hj, hB]
      rfl
    rw [ho]
    have hB9 := (hS.2.2.2.2.2.1 B (List.mem_of_getElem? hge)).1
    rw [hj] at M_o
    refine ax_if_ne (pc' := 7) (tgt := 10) dX8_undo_4 (by decide) rfl (fun _ => ?_) (fun hz => absurd hz (by rw [hj]; exact nI_ne0 (by omega) (by omega)))
    refine ax_aload_n (pc' := 11) rfl dX8_undo_10 rfl ?_
    refine ax_aload_n (pc' := 12) rfl dX8_undo_11 rfl ?_
    refine ax_getf (pc' := 15) fl_X8_149 M_o rfl dX8_undo_12 rfl ?_
    refine ax_bipush (pc' := 17) (v := (nI 38)) kb_38 dX8_undo_15 rfl ?_
    refine ax_imul (pc' := 18) dX8_undo_17 rfl ?_
    refine ax_topi (v' := nI (38 * (j + 1))) (by rw [pk_mul, Nat.mul_comm]) ?_
    refine ax_iconst (pc' := 19) (v := (nI 0)) kc_0 dX8_undo_18 rfl ?_
    refine ax_callVU (pc' := 22) lv_X8_214 (m_copies (p := 38 * (j + 1)) (q := 0) hM (by omega) (by decide) (by omega)) M_o rfl rfl (Nat.le_of_ble_eq_true rfl) (Nat.le_of_ble_eq_true rfl) dX8_undo_19 rfl (fun s1 g1 => ?_)
    have M_slot := ax_kS g1
    have M_o := ax_kN g1 M_o (by omega)
    refine ax_aload_n (pc' := 23) rfl dX8_undo_22 rfl ?_
    refine ax_dup (pc' := 24) rfl dX8_undo_23 rfl ?_
    refine ax_getf (pc' := 27) fl_X8_149 M_o rfl dX8_undo_24 rfl ?_
    refine ax_iconst (pc' := 28) (v := (nI 1)) kc_1 dX8_undo_27 rfl ?_
    refine ax_isub (pc' := 29) dX8_undo_28 rfl ?_
    refine ax_topi (v' := nI j) (nI_pred j) ?_
    refine ax_putu (pc' := 32) fp_X8_149 M_o rfl (fun _ => ⟨rfl, rfl⟩) dX8_undo_29 rfl (fun s2 g2 => ?_)
    have M_o := ax_kS g2
    have M_slot := ax_kN g2 M_slot (by omega)
    refine ax_aload_n (pc' := 33) rfl dX8_undo_32 rfl ?_
    refine ax_getf (pc' := 36) fl_X8_149 M_o rfl dX8_undo_33 rfl ?_
    have hlen : (S.2.2.2.1.take j).length = j := by simp; omega
    refine ax_iret dX8_undo_36 rfl (Nat.le_refl 0) (Nat.le_refl 0) ⟨rfl, ?_, (ax_fr.rf.up g1 (by omega) (by omega)).up g2 (by omega) (by omega)⟩
    have hL := (hSl.2.1 j B hge).mv hB9 (q := 0) (g := sl_cp f (38 * (j + 1)) 0 38) (fun x hx => sl_cp_in hx)
    have hre := hSl.re (B' := B) (us := S.2.2.2.1) h8 (fun u hu => (hS.2.2.2.2.2.1 u hu).1) hS.2.2.2.2.2.2.1 (fun u hu => (hS.2.2.2.2.2.2.2.1 u hu).1) hL (fun x a1 _ => sl_cp_out (by omega))
    refine ms_put hMb hNew hTx hSg (fun q a1 a2 => (ax_kF g2 a1).trans (ax_kF g1 a2)) (by rw [hlen]; exact M_o) M_slot ⟨hre.1, fun i u h => ?_, hre.2.2⟩
    rw [List.getElem?_take] at h
    split at h
    · exact hre.2.1 i u h
    · cases h
theorem y_keep (hx : ms_At σ.1 S) (hS : sp_Ok S) : ax_N mX8_keep 8 0 0 [.ref 56] σ (ms_Po σ (o_keep S)) := by
  obtain ⟨ng, nt, nw, ap, bg, wr, f, M_o, hMb, M_slot, hSl, hNew, hTx, hSg⟩ := id hx
  have hM : ml_At σ.1 S.2.1 f := ⟨⟨ng, nt, nw, _, _, _, ap, bg, wr, _, M_o⟩, hMb, M_slot⟩
  have h9 := hS.2.2.2.1.1
  have h8 := hS.2.2.2.2.1
  have h2 := hS.2.2.2.2.2.2.1
  refine ax_N.of (ls := [some (.ref 56)]) (by decide +kernel) rfl (Nat.le_of_ble_eq_true rfl) ?_
  refine ax_aload_n (pc' := 1) rfl dX8_keep_0 rfl ?_
  refine ax_getf (pc' := 4) fl_X8_152 M_o rfl dX8_keep_1 rfl ?_
  refine ax_iconst (pc' := 5) (v := (nI 2)) kc_2 dX8_keep_4 rfl ?_
  by_cases hl : S.2.2.2.2.1.length < 2
  · have ho : o_keep S = (nI (S.2.2.2.2.1.length + 1), (S.1, S.2.1, S.2.2.1, S.2.2.2.1, S.2.2.2.2.1 ++ [S.2.2.1], S.2.2.2.2.2)) := by simp [o_keep, hl]
    rw [ho]
    refine ax_icmp_ne (pc' := 8) (tgt := 11) dX8_keep_5 (by decide) rfl (fun _ => ?_) (fun hz => absurd hz (fun h => by have := (nI_eq (by omega) (by decide)).mp h; omega))
    refine ax_aload_n (pc' := 12) rfl dX8_keep_11 rfl ?_
    refine ax_iconst (pc' := 13) (v := (nI 0)) kc_0 dX8_keep_12 rfl ?_
    refine ax_bipush (pc' := 15) (v := (nI 9)) kb_9 dX8_keep_13 rfl ?_
    refine ax_aload_n (pc' := 16) rfl dX8_keep_15 rfl ?_
    refine ax_getf (pc' := 19) fl_X8_152 M_o rfl dX8_keep_16 rfl ?_
    refine ax_iadd (pc' := 20) dX8_keep_19 rfl ?_
    refine ax_bipush (pc' := 22) (v := (nI 38)) kb_38 dX8_keep_20 rfl ?_
    refine ax_imul (pc' := 23) dX8_keep_22 rfl ?_
    refine ax_topi (v' := nI (38 * (S.2.2.2.2.1.length + 9))) (by rw [nI_add, pk_mul]; congr 1; omega) ?_
    refine ax_callVU (pc' := 26) lv_X8_214 (m_copies (p := 0) (q := 38 * (S.2.2.2.2.1.length + 9)) hM (by decide) (by omega) (by omega)) M_o rfl rfl (Nat.le_of_ble_eq_true rfl) (Nat.le_of_ble_eq_true rfl) dX8_keep_23 rfl (fun s1 g1 => ?_)
    have M_slot := ax_kS g1
    have M_o := ax_kN g1 M_o (by omega)
    refine ax_aload_n (pc' := 27) rfl dX8_keep_26 rfl ?_
    refine ax_dup (pc' := 28) rfl dX8_keep_27 rfl ?_
    refine ax_getf (pc' := 31) fl_X8_152 M_o rfl dX8_keep_28 rfl ?_
    refine ax_iconst (pc' := 32) (v := (nI 1)) kc_1 dX8_keep_31 rfl ?_
    refine ax_iadd (pc' := 33) dX8_keep_32 rfl ?_
    refine ax_topi (nI_add _ 1) ?_
    refine ax_putu (pc' := 36) fp_X8_152 M_o rfl (fun _ => ⟨rfl, rfl⟩) dX8_keep_33 rfl (fun s2 g2 => ?_)
    have M_o := ax_kS g2
    have M_slot := ax_kN g2 M_slot (by omega)
    refine ax_aload_n (pc' := 37) rfl dX8_keep_36 rfl ?_
    refine ax_getf (pc' := 40) fl_X8_152 M_o rfl dX8_keep_37 rfl ?_
    have hlen : (S.2.2.2.2.1 ++ [S.2.2.1]).length = S.2.2.2.2.1.length + 1 := by simp
    refine ax_iret dX8_keep_40 rfl (Nat.le_refl 0) (Nat.le_refl 0) ⟨rfl, ?_, (ax_fr.rf.up g1 (by omega) (by omega)).up g2 (by omega) (by omega)⟩
    refine ms_put hMb hNew hTx hSg (fun q a1 a2 => (ax_kF g2 a1).trans (ax_kF g1 a2)) (by rw [hlen]; exact M_o) M_slot ⟨hSl.1.mv h9 (fun x hx => sl_cp_out (by omega)), fun i u h => ?_, fun i u h => ?_⟩
    · have := (List.getElem?_eq_some_iff.mp h).1
      exact (hSl.2.1 i u h).mv (hS.2.2.2.2.2.1 u (List.mem_of_getElem? h)).1 (fun x hx => sl_cp_out (by omega))
    · by_cases e : i < S.2.2.2.2.1.length
      · rw [List.getElem?_append_left e] at h
        exact (hSl.2.2 i u h).mv (hS.2.2.2.2.2.2.2.1 u (List.mem_of_getElem? h)).1 (fun x hx => sl_cp_out (by omega))
      · have e2 : i = S.2.2.2.2.1.length := by
          have := (List.getElem?_eq_some_iff.mp h).1
          simp at this
          omega
        subst e2
        rw [List.getElem?_append_right (Nat.le_refl _), Nat.sub_self] at h
        cases h
        exact hSl.1.mv h9 (fun x hx => sl_cp_in hx)
  · have ho : o_keep S = (-3, S) := by simp [o_keep, hl]
    rw [ho]
    refine ax_icmp_ne (pc' := 8) (tgt := 11) dX8_keep_5 (by decide) rfl (fun hz => absurd (by rw [show S.2.2.2.2.1.length = 2 by omega]) hz) (fun _ => ?_)
    refine ax_bipush (pc' := 10) (v := (-3)) kb_m3 dX8_keep_8 rfl ?_
    exact ax_iret dX8_keep_10 rfl (Nat.le_of_ble_eq_true rfl) (Nat.le_of_ble_eq_true rfl) (⟨rfl, hx, ax_fr.rf⟩)
theorem y_back (hx : ms_At σ.1 S) (hS : sp_Ok S) : ax_N mX8_back 8 0 0 [.ref 56] σ (ms_Po σ (o_back S)) := by
  obtain ⟨ng, nt, nw, ap, bg, wr, f, M_o, hMb, M_slot, hSl, hNew, hTx, hSg⟩ := id hx
  have h8 := hS.2.2.2.2.1
  have h2 := hS.2.2.2.2.2.2.1
  refine ax_N.of (ls := [some (.ref 56)]) (by decide +kernel) rfl (Nat.le_of_ble_eq_true rfl) ?_
  refine ax_aload_n (pc' := 1) rfl dX8_back_0 rfl ?_
  refine ax_getf (pc' := 4) fl_X8_152 M_o rfl dX8_back_1 rfl ?_
  by_cases hl : S.2.2.2.2.1.length = 0
  · have ho : o_back S = (-2, S) := by simp [o_back, hl]
    rw [ho]
    refine ax_if_ne (pc' := 7) (tgt := 10) dX8_back_4 (by decide) rfl (fun hz => absurd (by rw [hl]; exact kz_0) hz) (fun _ => ?_)
    refine ax_bipush (pc' := 9) (v := (-2)) kb_m2 dX8_back_7 rfl ?_
    exact ax_iret dX8_back_9 rfl (Nat.le_of_ble_eq_true rfl) (Nat.le_of_ble_eq_true rfl) (⟨rfl, hx, ax_fr.rf⟩)
  · obtain ⟨j, hj⟩ : ∃ j, S.2.2.2.2.1.length = j + 1 := ⟨S.2.2.2.2.1.length - 1, by omega⟩
    have hjl : j < S.2.2.2.2.1.length := by omega
    obtain ⟨B, hB⟩ : ∃ B, B = S.2.2.2.2.1.getD j S.2.2.1 := ⟨_, rfl⟩
    have hge : S.2.2.2.2.1[j]? = some B := by
      rw [hB, List.getD_eq_getElem?_getD, List.getElem?_eq_getElem hjl]
      rfl
    have ho : o_back S = (nI j, (S.1, S.2.1, B, [], S.2.2.2.2.1.take j, S.2.2.2.2.2)) := by
      rw [o_back, if_neg hl, hj, hB]
      rfl
    rw [ho]
    have hB9 := (hS.2.2.2.2.2.2.2.1 B (List.mem_of_getElem? hge)).1
    rw [hj] at M_o
    refine ax_if_ne (pc' := 7) (tgt := 10) dX8_back_4 (by decide) rfl (fun _ => ?_) (fun hz => absurd hz (by rw [hj]; exact nI_ne0 (by omega) (by omega)))
    refine ax_aload_n (pc' := 11) rfl dX8_back_10 rfl ?_
    refine ax_dup (pc' := 12) rfl dX8_back_11 rfl ?_
    refine ax_getf (pc' := 15) fl_X8_152 M_o rfl dX8_back_12 rfl ?_
    refine ax_iconst (pc' := 16) (v := (nI 1)) kc_1 dX8_back_15 rfl ?_
    refine ax_isub (pc' := 17) dX8_back_16 rfl ?_
    refine ax_topi (v' := nI j) (nI_pred j) ?_
    refine ax_putu (pc' := 20) fp_X8_152 M_o rfl (fun _ => ⟨rfl, rfl⟩) dX8_back_17 rfl (fun s0 g0 => ?_)
    have M_o := ax_kS g0
    have M_slot := ax_kN g0 M_slot (by omega)
    have hM : ml_At s0.1 S.2.1 f := ⟨⟨ng, nt, nw, _, _, _, ap, bg, wr, _, M_o⟩, hMb.on (fun q _ _ => ax_kF g0 (by omega)), M_slot⟩
    refine ax_aload_n (pc' := 21) rfl dX8_back_20 rfl ?_
    refine ax_bipush (pc' := 23) (v := (nI 9)) kb_9 dX8_back_21 rfl ?_
    refine ax_aload_n (pc' := 24) rfl dX8_back_23 rfl ?_
    refine ax_getf (pc' := 27) fl_X8_152 M_o rfl dX8_back_24 rfl ?_
    refine ax_iadd (pc' := 28) dX8_back_27 rfl ?_
    refine ax_bipush (pc' := 30) (v := (nI 38)) kb_38 dX8_back_28 rfl ?_
    refine ax_imul (pc' := 31) dX8_back_30 rfl ?_
    refine ax_topi (v' := nI (38 * (j + 9))) (by rw [nI_add, pk_mul]; congr 1; omega) ?_
    refine ax_iconst (pc' := 32) (v := (nI 0)) kc_0 dX8_back_31 rfl ?_
    refine ax_callVU (pc' := 35) lv_X8_214 (m_copies (p := 38 * (j + 9)) (q := 0) hM (by omega) (by decide) (by omega)) M_o rfl rfl (Nat.le_of_ble_eq_true rfl) (Nat.le_of_ble_eq_true rfl) dX8_back_32 rfl (fun s1 g1 => ?_)
    have M_slot := ax_kS g1
    have M_o := ax_kN g1 M_o (by omega)
    refine ax_aload_n (pc' := 36) rfl dX8_back_35 rfl ?_
    refine ax_iconst (pc' := 37) (v := (nI 0)) kc_0 dX8_back_36 rfl ?_
    refine ax_putu (pc' := 40) fp_X8_149 M_o rfl (fun _ => ⟨rfl, rfl⟩) dX8_back_37 rfl (fun s2 g2 => ?_)
    have M_o := ax_kS g2
    have M_slot := ax_kN g2 M_slot (by omega)
    refine ax_aload_n (pc' := 41) rfl dX8_back_40 rfl ?_
    refine ax_getf (pc' := 44) fl_X8_152 M_o rfl dX8_back_41 rfl ?_
    have hlen : (S.2.2.2.2.1.take j).length = j := by simp; omega
    refine ax_iret dX8_back_44 rfl (Nat.le_refl 0) (Nat.le_refl 0) ⟨rfl, ?_, ((ax_fr.rf.up g0 (by omega) (by omega)).up g1 (by omega) (by omega)).up g2 (by omega) (by omega)⟩
    have hL := (hSl.2.2 j B hge).mv hB9 (q := 0) (g := sl_cp f (38 * (j + 9)) 0 38) (fun x hx => sl_cp_in hx)
    have hre := hSl.re (B' := B) (us := S.2.2.2.1) h8 (fun u hu => (hS.2.2.2.2.2.1 u hu).1) hS.2.2.2.2.2.2.1 (fun u hu => (hS.2.2.2.2.2.2.2.1 u hu).1) hL (fun x a1 _ => sl_cp_out (by omega))
    refine ms_put hMb hNew hTx hSg (fun q a1 a2 => (ax_kF g2 a1).trans ((ax_kF g1 a2).trans (ax_kF g0 a1))) (by rw [hlen]; exact M_o) M_slot ⟨hre.1, fun i u h => (by cases h), fun i u h => ?_⟩
    rw [List.getElem?_take] at h
    split at h
    · exact hre.2.2 i u h
    · cases h
end MC
