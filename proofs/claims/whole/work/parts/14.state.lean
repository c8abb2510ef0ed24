/-! ===== the document's state and calls ===== -/
abbrev sp_Bk : Type := List sp_rep × Nat
/-- text, ball, reports and days, what can be undone (oldest first), kept, seen -/
abbrev sp_S : Type := (Nat × (Nat → Nat)) × sp_B × sp_Bk × List sp_Bk × List sp_Bk × List sp_rep
def sp_Ok (S : sp_S) : Prop := sp_tok S.1.1 S.1.2 ∧ sp_ok S.2.1 ∧ (2 ≤ S.2.1.2.1 ∧ 1 ≤ S.2.1.2.2.1) ∧ bk_ok S.2.1 S.2.2.1.1 ∧ S.2.2.2.1.length ≤ 8 ∧ (∀ u ∈ S.2.2.2.1, bk_ok S.2.1 u.1) ∧ S.2.2.2.2.1.length ≤ 2 ∧ (∀ u ∈ S.2.2.2.2.1, bk_ok S.2.1 u.1) ∧ sg_ok S.2.1 S.2.2.2.2.2
def sp_in (v : Int32) (lo hi : Nat) : Option Nat := if nI lo ≤ v ∧ v ≤ nI hi then some v.toNatClampNeg else none
def sp_ix (v : Int32) (n : Nat) : Option Nat := if nI 0 ≤ v ∧ v < nI n then some v.toNatClampNeg else none
theorem sp_in_cases (v : Int32) {lo hi : Nat} (h : lo ≤ hi) (hh : hi < 2 ^ 31) : (∃ j, lo ≤ j ∧ j ≤ hi ∧ v = nI j ∧ sp_in v lo hi = some j) ∨ (¬ (nI lo ≤ v ∧ v ≤ nI hi) ∧ sp_in v lo hi = none) := by
  by_cases hc : nI lo ≤ v ∧ v ≤ nI hi
  · left
    obtain ⟨j, hj, rfl⟩ := nI_of (x := v) (fun h0 => by
      have h1 := hc.1
      rw [Int32.le_iff_toInt_le, nI_toInt (by omega)] at h1
      rw [Int32.lt_iff_toInt_lt, Int32.toInt_zero] at h0
      omega)
    refine ⟨j, (nI_leI (by omega) hj).mp hc.1, (nI_leI hj hh).mp hc.2, rfl, ?_⟩
    rw [sp_in, if_pos hc, nI_clamp hj]
  · right
    exact ⟨hc, by rw [sp_in, if_neg hc]⟩
theorem sp_ix_cases (v : Int32) {n : Nat} (hn : n < 2 ^ 31) : (∃ j, j < n ∧ v = nI j ∧ sp_ix v n = some j) ∨ ((¬ ∃ j, j < n ∧ v = nI j) ∧ sp_ix v n = none) := by
  by_cases hc : ∃ j, j < n ∧ v = nI j
  · left
    obtain ⟨j, hj, rfl⟩ := hc
    refine ⟨j, hj, rfl, ?_⟩
    rw [sp_ix, if_pos ⟨nI_le (by omega) (by omega), nI_lt hj hn⟩, nI_clamp (by omega)]
  · right
    refine ⟨hc, ?_⟩
    rw [sp_ix, if_neg]
    intro ⟨h1, h2⟩
    obtain ⟨j, hj, rfl⟩ := nI_of (x := v) (fun h0 => by
      rw [Int32.le_iff_toInt_le, nI_toInt (by omega)] at h1
      rw [Int32.lt_iff_toInt_lt, Int32.toInt_zero] at h0
      omega)
    exact hc ⟨j, (nI_ltI hj hn).mp h2, rfl⟩
def sp_two (v u : Int32) (n : Nat) : Option (Nat × Nat) := match sp_ix v n, sp_ix u n with
  | some a, some c => if a = c then none else some (a, c)
  | _, _ => none
theorem sp_two_cases (v u : Int32) {n : Nat} (hn : n < 2 ^ 31) : (∃ a c, a < n ∧ c < n ∧ a ≠ c ∧ v = nI a ∧ u = nI c ∧ sp_two v u n = some (a, c)) ∨ ((¬ ∃ a c, a < n ∧ c < n ∧ a ≠ c ∧ v = nI a ∧ u = nI c) ∧ sp_two v u n = none) := by
  rcases sp_ix_cases v hn with ⟨a, ha, rfl, e1⟩ | ⟨hv, e1⟩
  · rcases sp_ix_cases u hn with ⟨c, hc, rfl, e2⟩ | ⟨hu, e2⟩
    · by_cases hac : a = c
      · right
        refine ⟨fun ⟨a', c', q1, q2, q3, q4, q5⟩ => q3 ?_, by simp only [sp_two, e1, e2, hac, if_true]⟩
        rw [← (nI_eq (by omega) (by omega)).mp q4, ← (nI_eq (by omega) (by omega)).mp q5]
        exact hac
      · left
        exact ⟨a, c, ha, hc, hac, rfl, rfl, by simp only [sp_two, e1, e2, hac, if_false]⟩
    · right
      exact ⟨fun ⟨a', c', q1, q2, q3, q4, q5⟩ => hu ⟨c', q2, q5⟩, by simp only [sp_two, e1, e2]⟩
  · right
    exact ⟨fun ⟨a', c', q1, q2, q3, q4, q5⟩ => hv ⟨a', q1, q4⟩, by simp only [sp_two, e1]⟩
abbrev sp_A : Type := Int32 × sp_S
def o_write (S : sp_S) (v : Int32) : sp_A := match sp_in v 32 126 with
  | none => (-1, S)
  | some c => if S.1.1 < 200 then (nI (S.1.1 + 1), ((S.1.1 + 1, sp_up S.1.2 S.1.1 c), S.2)) else (-3, S)
def o_wipe (S : sp_S) : sp_A := (nI S.1.1, ((0, S.1.2), S.2))
def o_fault (S : sp_S) : sp_A := match sp_pa S.1.1 S.1.2 200 0 sp_b0 with
  | .inl i => (nI i, S)
  | .inr _ => (-4, S)
def o_lay (S : sp_S) : sp_A := match sp_pa S.1.1 S.1.2 200 0 sp_b0 with
  | .inl _ => (-2, S)
  | .inr b => if b.2.1 < 2 ∨ b.2.2.1 < 1 then (-2, S) else (nI b.2.1, (S.1, b, ([], 0), [], [], []))
def o_town (S : sp_S) (v u : Int32) : sp_A := (match sp_ix v S.2.1.2.1, sp_in u 0 1 with
  | some t, some i => if i = 0 then nI (sp_L S.2.1 t) else nI (sp_sh S.2.1 t)
  | _, _ => -1, S)
def o_between (S : sp_S) (v u t : Int32) : sp_A := (match sp_two v u S.2.1.2.1, sp_in t 0 2 with
  | some q, some i => if i = 0 then nI (sp_str S.2.1 q.1 q.2) else if i = 1 then nI (sp_road S.2.1 q.1 q.2) else nI (sp_deg S.2.1 q.1 q.2)
  | _, _ => -1, S)
def o_walker (S : sp_S) (v u : Int32) : sp_A := (match sp_ix v S.2.1.2.2.1, sp_in u 0 2 with
  | some w, some i => if i = 0 then nI (sp_K S.2.1 w) else if i = 1 then nI (sp_P S.2.1 w) else nI (sp_U S.2.1 w)
  | _, _ => -1, S)
def sp_rp (b : sp_B) (q : sp_rep) (i : Nat) : Int32 := if i = 0 then nI q.1 else if i = 1 then nI q.2.1 else if i = 2 then nI q.2.2.1 else if i = 3 then nI q.2.2.2 else if i = 4 then sp_en (sp_gb b q) else if i = 5 then sp_en (sp_ls b q) else sp_en (sp_ms b q)
def o_report (S : sp_S) (v u : Int32) : sp_A := (match sp_ix v S.2.2.1.1.length, sp_in u 0 6 with
  | some r, some i => sp_rp S.2.1 (sp_at S.2.2.1.1 r) i
  | _, _ => -1, S)
def o_walk (S : sp_S) (v u t : Int32) : sp_A := match sp_ix v S.2.1.2.2.1, sp_two u t S.2.1.2.1 with
  | some w, some q => if S.2.2.1.1.length < 9 then (nI (sp_wk S.2.1 S.2.2.1.1 w q.1 q.2).2.2.2, (S.1, S.2.1, (S.2.2.1.1 ++ [sp_wk S.2.1 S.2.2.1.1 w q.1 q.2], S.2.2.1.2 + sp_days S.2.1 w q.1 q.2), sp_mk S.2.2.2.1 ++ [S.2.2.1], S.2.2.2.2)) else (-3, S)
  | _, _ => (-1, S)
def o_strike (S : sp_S) (v : Int32) : sp_A := match sp_ix v S.2.2.1.1.length with
  | some r => (nI (S.2.2.1.1.length - 1), (S.1, S.2.1, (sp_del S.2.2.1.1 r, S.2.2.1.2), sp_mk S.2.2.2.1 ++ [S.2.2.1], S.2.2.2.2))
  | none => (-1, S)
def o_undo (S : sp_S) : sp_A := if S.2.2.2.1.length = 0 then (-2, S) else (nI (S.2.2.2.1.length - 1), (S.1, S.2.1, S.2.2.2.1.getD (S.2.2.2.1.length - 1) S.2.2.1, S.2.2.2.1.take (S.2.2.2.1.length - 1), S.2.2.2.2))
def sp_mn (S : sp_S) : Option Nat := sp_mean (sp_sel S.2.1 S.2.2.1.1 511 0) S.2.2.1.1.length
def o_mean (S : sp_S) : sp_A := (sp_en (sp_mn S), S)
/-- the greatest least and the least most of the first k reports that have a most -/
def sp_al (b : sp_B) (rs : List sp_rep) : Nat → Option (Nat × Nat)
  | 0 => none
  | k + 1 => match sp_ms b (sp_at rs k) with
    | none => sp_al b rs k
    | some h => match sp_al b rs k with
      | none => some ((sp_ls b (sp_at rs k)).getD 0, h)
      | some q => some (max q.1 ((sp_ls b (sp_at rs k)).getD 0), min q.2 h)
def o_all (S : sp_S) (v : Int32) : sp_A := (match sp_in v 0 2 with
  | none => -1
  | some i => match sp_al S.2.1 S.2.2.1.1 S.2.2.1.1.length with
    | none => -4
    | some q => if i = 2 then (if q.2 < q.1 then nI 1 else nI 0) else if i = 0 then nI q.1 else nI q.2, S)
def sp_nb (b : sp_B) (rs : List sp_rep) (w a c : Nat) (o : Option (Nat × Nat)) : Option (Nat × Nat) := match sp_wid b rs w a c with
  | none => o
  | some v => match o with
    | none => some (10 * a + c, v)
    | some q => if v < q.2 then some (10 * a + c, v) else some q
/-- town a with those before j that are above it -/
def sp_ni (b : sp_B) (rs : List sp_rep) (w a : Nat) (o : Option (Nat × Nat)) : Nat → Option (Nat × Nat)
  | 0 => o
  | j + 1 => if a < j then sp_nb b rs w a j (sp_ni b rs w a o j) else sp_ni b rs w a o j
def sp_no (b : sp_B) (rs : List sp_rep) (w : Nat) : Nat → Option (Nat × Nat)
  | 0 => none
  | i + 1 => sp_ni b rs w i (sp_no b rs w i) b.2.1
def sp_o1 : Option (Nat × Nat) → Int32
  | none => -4
  | some q => nI q.1
def sp_o2 : Option (Nat × Nat) → Int32
  | none => -4
  | some q => nI q.2
def o_next (S : sp_S) (v u : Int32) : sp_A := (match sp_ix v S.2.1.2.2.1, sp_in u 0 1 with
  | some w, some i => if i = 0 then sp_o1 (sp_no S.2.1 S.2.2.1.1 w S.2.1.2.1) else sp_o2 (sp_no S.2.1 S.2.2.1.1 w S.2.1.2.1)
  | _, _ => -1, S)
/-- the first set of m among those before k -/
def sp_fs (P : Nat → Bool) (m : Nat) : Nat → Option Nat
  | 0 => none
  | k + 1 => match sp_fs P m k with
    | some s => some s
    | none => if 1 ≤ k ∧ sp_bits k 9 = m ∧ P k = true then some k else none
def sp_few (P : Nat → Bool) (k : Nat) : Option Nat := match sp_fs P 1 k with
  | some s => some s
  | none => match sp_fs P 2 k with
    | some s => some s
    | none => match sp_fs P 3 k with
      | some s => some s
      | none => sp_fs P 4 k
def sp_nr (S : sp_S) (e s : Nat) : Bool := sp_near S.2.1.1 e (sp_mean (sp_sel S.2.1 S.2.2.1.1 s 0) S.2.2.1.1.length)
def o_fewest (S : sp_S) (v u : Int32) : sp_A := (match sp_in v 0 99, sp_in u 0 1 with
  | some e, some i => match sp_few (sp_nr S e) (2 ^ S.2.2.1.1.length) with
    | none => -4
    | some s => if i = 0 then nI (sp_bits s 9) else nI s
  | _, _ => -1, S)
/-- nearer without the errors er -/
def sp_cb (b : sp_B) (q : sp_rep) (off er : Nat) : Bool := match sp_gw b q er with
  | none => false
  | some g => decide (sp_far g b.1 < off)
def sp_cn (b : sp_B) (q : sp_rep) (off : Nat) : Nat → Nat
  | 0 => off
  | k + 1 => if 1 ≤ k then (match sp_gw b q k with | none => sp_cn b q off k | some g => min (sp_cn b q off k) (sp_far g b.1)) else sp_cn b q off k
def o_cancel (S : sp_S) (v u : Int32) : sp_A := (match sp_ix v S.2.2.1.1.length, sp_in u 0 1 with
  | some r, some i => match sp_gb S.2.1 (sp_at S.2.2.1.1 r) with
    | none => -4
    | some g => if i = 0 then nI (sp_set (sp_cb S.2.1 (sp_at S.2.2.1.1 r) (sp_far g S.2.1.1)) 1 8) else nI (sp_cn S.2.1 (sp_at S.2.2.1.1 r) (sp_far g S.2.1.1) 8)
  | _, _ => -1, S)
def o_sail (S : sp_S) (v u : Int32) : sp_A := (match sp_in v 1 360, sp_in u 1 99 with
  | some l, some d => match sp_mn S with
    | none => -4
    | some m => if 100 * d < m * l / 360 then nI 0 else if 100 * d < S.2.1.1 * l / 360 then nI 1 else nI 2
  | _, _ => -1, S)
def o_see (S : sp_S) (v u t n : Int32) : sp_A := match sp_ix v S.2.1.2.2.1, sp_two u t S.2.1.2.1, sp_in n 0 9999 with
  | some w, some q, some n => if S.2.2.2.2.2.length < 6 then (nI (S.2.2.2.2.2.length + 1), (S.1, S.2.1, S.2.2.1, S.2.2.2.1, S.2.2.2.2.1, S.2.2.2.2.2 ++ [(w, q.1, q.2, n)])) else (-3, S)
  | _, _, _ => (-1, S)
def o_forget (S : sp_S) : sp_A := (nI S.2.2.2.2.2.length, (S.1, S.2.1, S.2.2.1, S.2.2.2.1, S.2.2.2.2.1, []))
def o_fits (S : sp_S) (v u : Int32) : sp_A := (match sp_ix v S.2.1.2.2.1, sp_in u 0 1 with
  | some w, some i => if i = 0 then nI (sp_set (fun u => sp_fit S.2.1 S.2.2.1.1 S.2.2.2.2.2 w (sp_K S.2.1 w) u S.2.2.2.2.2.length) 1 10) else nI (sp_set (fun kd => sp_fit S.2.1 S.2.2.1.1 S.2.2.2.2.2 w kd (sp_U S.2.1 w) S.2.2.2.2.2.length) 0 4)
  | _, _ => -1, S)
def o_towns (S : sp_S) (v : Int32) : sp_A := (match sp_in v 0 90 with
  | none => -1
  | some s => nI (sp_set (fun t => decide (sp_far (sp_sh S.2.1 t) s ≤ 1)) 0 S.2.1.2.1), S)
def sp_up2 (S : sp_S) (e x : Nat) : Nat := sp_ways (fun s => sp_near S.2.1.1 e (sp_mean (sp_sel S.2.1 S.2.2.1.1 511 s) S.2.2.1.1.length)) x S.2.2.1.1.length (2 ^ S.2.2.1.1.length)
def o_miscount (S : sp_S) (v u t : Int32) : sp_A := (match sp_in v 0 99, sp_in u 0 10, sp_in t 0 1 with
  | some e, some x, some i => if i = 0 then nI (sp_up2 S e x / Nat.gcd (sp_up2 S e x) (10 ^ S.2.2.1.1.length)) else nI (10 ^ S.2.2.1.1.length / Nat.gcd (sp_up2 S e x) (10 ^ S.2.2.1.1.length))
  | _, _, _ => -1, S)
def sp_yr (b : sp_B) (B : sp_Bk) (z : Nat) : Nat → sp_Bk
  | 0 => B
  | k + 1 => sp_wd b (sp_yr b B z k) ((7919 * z + 6151 * k + 1) * (7919 * z + 6151 * k + 1) % 65521)
def o_year (S : sp_S) (v u t : Int32) : sp_A := (match sp_in v 0 9999, sp_in u 1 40, sp_in t 0 1 with
  | some z, some n, some i => if i = 0 then sp_en (sp_mean (sp_sel S.2.1 (sp_yr S.2.1 S.2.2.1 z n).1 511 0) (sp_yr S.2.1 S.2.2.1 z n).1.length) else nI (sp_yr S.2.1 S.2.2.1 z n).2 - nI S.2.2.1.2
  | _, _, _ => -1, S)
def o_keep (S : sp_S) : sp_A := if S.2.2.2.2.1.length < 2 then (nI (S.2.2.2.2.1.length + 1), (S.1, S.2.1, S.2.2.1, S.2.2.2.1, S.2.2.2.2.1 ++ [S.2.2.1], S.2.2.2.2.2)) else (-3, S)
def o_back (S : sp_S) : sp_A := if S.2.2.2.2.1.length = 0 then (-2, S) else (nI (S.2.2.2.2.1.length - 1), (S.1, S.2.1, S.2.2.2.2.1.getD (S.2.2.2.2.1.length - 1) S.2.2.1, [], S.2.2.2.2.1.take (S.2.2.2.2.1.length - 1), S.2.2.2.2.2))
def o_count (S : sp_S) (v : Int32) : sp_A := (match sp_in v 0 8 with
  | none => -1
  | some i => if i = 0 then nI S.2.1.2.1 else if i = 1 then nI S.2.1.2.2.1 else if i = 2 then nI S.2.1.1 else if i = 3 then nI S.2.2.1.1.length else if i = 4 then nI S.2.2.1.2 else if i = 5 then nI S.2.2.2.2.2.length else if i = 6 then nI S.2.2.2.1.length else if i = 7 then nI S.2.2.2.2.1.length else nI S.1.1, S)
/-! the state stays as it must -/
theorem sp_yr_ok {b : sp_B} {B : sp_Bk} {z k : Nat} (hb : sp_ok b) (hk : bk_ok b B.1) (ht : 2 ≤ b.2.1) (hw : 1 ≤ b.2.2.1) : bk_ok b (sp_yr b B z k).1 := by
  induction k with
  | zero => exact hk
  | succ k ih => exact sp_wd_ok hb ih ht hw
theorem sp_mk_mem {α : Type} {l : List α} {a : α} (h : a ∈ sp_mk l) : a ∈ l := by
  unfold sp_mk at h
  split at h
  · exact h
  · exact List.mem_of_mem_tail h
theorem sp_take_ok {n : Nat} {tx : Nat → Nat} {i : Nat} {b : sp_B} {q : sp_B × Nat} (hb : sp_ok b) (h : sp_take n tx i b = some q) : sp_ok q.1 := by
  unfold sp_take at h
  split at h
  · cases h
  · obtain ⟨b9, h9, e9⟩ := Option.map_eq_some_iff.mp h
    cases e9
    exact sp_item_ok hb h9
theorem sp_pa_ok {n : Nat} {tx : Nat → Nat} : ∀ (f i : Nat) (b b' : sp_B), sp_ok b → sp_pa n tx f i b = .inr b' → sp_ok b' := by
  intro f
  induction f with
  | zero => intro i b b' hb h; cases h; exact hb
  | succ f ih =>
    intro i b b' hb h
    simp only [sp_pa] at h
    split at h
    · split at h
      · cases h
      · rename_i q hq
        exact ih _ _ _ (sp_take_ok hb hq) h
    · cases h; exact hb
theorem ok_write {S : sp_S} (h : sp_Ok S) (v : Int32) : sp_Ok (o_write S v).2 := by
  unfold o_write
  rcases sp_in_cases v (lo := 32) (hi := 126) (by decide) (by decide) with ⟨c, h1, h2, -, e⟩ | ⟨-, e⟩
  · rw [e]
    show sp_Ok (if S.1.1 < 200 then (nI (S.1.1 + 1), ((S.1.1 + 1, sp_up S.1.2 S.1.1 c), S.2)) else (-3, S)).2
    split
    · refine ⟨⟨by show S.1.1 + 1 ≤ 200; omega, fun i => ?_⟩, h.2⟩
      show sp_up S.1.2 S.1.1 c i ≤ 126
      unfold sp_up
      split
      · exact h2
      · exact h.1.2 i
    · exact h
  · rw [e]; exact h
theorem ok_wipe {S : sp_S} (h : sp_Ok S) : sp_Ok (o_wipe S).2 := ⟨⟨by show 0 ≤ 200; omega, h.1.2⟩, h.2⟩
theorem ok_fault {S : sp_S} (h : sp_Ok S) : sp_Ok (o_fault S).2 := by
  unfold o_fault
  split <;> exact h
theorem bk_ok_nil {b : sp_B} : bk_ok b [] := ⟨Nat.zero_le _, fun i hi => absurd hi (Nat.not_lt_zero _)⟩
theorem sg_ok_nil {b : sp_B} : sg_ok b [] := ⟨Nat.zero_le _, fun i hi => absurd hi (Nat.not_lt_zero _)⟩
theorem ok_lay {S : sp_S} (h : sp_Ok S) : sp_Ok (o_lay S).2 := by
  unfold o_lay
  split
  · exact h
  · rename_i b hb
    split
    · exact h
    · exact ⟨h.1, sp_pa_ok 200 0 sp_b0 b sp_b0_ok hb, ⟨by show 2 ≤ b.2.1; omega, by show 1 ≤ b.2.2.1; omega⟩, bk_ok_nil, Nat.zero_le _, fun u hu => (by cases hu), Nat.zero_le _, fun u hu => (by cases hu), sg_ok_nil⟩
theorem ok_push {S : sp_S} (h : sp_Ok S) {B : sp_Bk} (hB : bk_ok S.2.1 B.1) : sp_Ok (S.1, S.2.1, B, sp_mk S.2.2.2.1 ++ [S.2.2.1], S.2.2.2.2) := by
  obtain ⟨h1, h2, h3, h4, h5, h6, h7⟩ := h
  refine ⟨h1, h2, h3, hB, ?_, fun u hu => ?_, h7⟩
  · have := sp_mk_len h5
    show (sp_mk S.2.2.2.1 ++ [S.2.2.1]).length ≤ 8
    simp; omega
  · rcases List.mem_append.mp hu with q | q
    · exact h6 u (sp_mk_mem q)
    · rw [List.mem_singleton.mp q]; exact h4
theorem ok_walk {S : sp_S} (h : sp_Ok S) (v u t : Int32) : sp_Ok (o_walk S v u t).2 := by
  have h6 := h.2.1.2.1
  have h4 := h.2.1.2.2.1
  unfold o_walk
  rcases sp_ix_cases v (n := S.2.1.2.2.1) (by omega) with ⟨w, hw, -, e1⟩ | ⟨-, e1⟩
  · rcases sp_two_cases u t (n := S.2.1.2.1) (by omega) with ⟨a, c, ha, hc, hac, -, -, e2⟩ | ⟨-, e2⟩
    · rw [e1, e2]
      dsimp only
      split
      · exact ok_push h (bk_ok_snoc h.2.2.2.1 (by assumption) hw ha hc (sp_told_le h.2.1 h.2.2.2.1 (by have := (h.2.1.2.2.2.2.2 w).2.2.2.1; omega)))
      · exact h
    · rw [e1, e2]; exact h
  · rw [e1]; exact h
theorem ok_strike {S : sp_S} (h : sp_Ok S) (v : Int32) : sp_Ok (o_strike S v).2 := by
  have h9 := h.2.2.2.1.1
  unfold o_strike
  rcases sp_ix_cases v (n := S.2.2.1.1.length) (by omega) with ⟨r, hr, -, e1⟩ | ⟨-, e1⟩
  · rw [e1]
    exact ok_push h (B := (sp_del S.2.2.1.1 r, S.2.2.1.2)) (bk_ok_del h.2.2.2.1 hr)
  · rw [e1]; exact h
theorem sp_getD_mem {α : Type} {l : List α} {i : Nat} {d : α} (h : i < l.length) : l.getD i d ∈ l := by
  rw [List.getD_eq_getElem?_getD, List.getElem?_eq_getElem h]
  exact List.getElem_mem h
theorem ok_undo {S : sp_S} (h : sp_Ok S) : sp_Ok (o_undo S).2 := by
  unfold o_undo
  split
  · exact h
  · obtain ⟨h1, h2, h3, h4, h5, h6, h7⟩ := h
    refine ⟨h1, h2, h3, h6 _ (sp_getD_mem (by omega)), ?_, fun u hu => h6 u (List.mem_of_mem_take hu), h7⟩
    show (S.2.2.2.1.take _).length ≤ 8
    simp; omega
theorem ok_see {S : sp_S} (h : sp_Ok S) (v u t n : Int32) : sp_Ok (o_see S v u t n).2 := by
  have h6 := h.2.1.2.1
  have h4 := h.2.1.2.2.1
  unfold o_see
  rcases sp_ix_cases v (n := S.2.1.2.2.1) (by omega) with ⟨w, hw, -, e1⟩ | ⟨-, e1⟩
  · rcases sp_two_cases u t (n := S.2.1.2.1) (by omega) with ⟨a, c, ha, hc, hac, -, -, e2⟩ | ⟨-, e2⟩
    · rcases sp_in_cases n (lo := 0) (hi := 9999) (by decide) (by decide) with ⟨m, -, hm, -, e3⟩ | ⟨-, e3⟩
      · rw [e1, e2, e3]
        dsimp only
        split
        · obtain ⟨h1, h2, h3, h4, h5, h6, h7, h8, h9⟩ := h
          refine ⟨h1, h2, h3, h4, h5, h6, h7, h8, by simp; omega, fun i hi => ?_⟩
          dsimp only at hi ⊢
          rw [sp_at_snoc hi]
          split
          · exact ⟨hw, ha, hc, hm⟩
          · simp at hi
            exact h9.2 i (by omega)
        · exact h
      · rw [e1, e2, e3]; exact h
    · rw [e1, e2]; exact h
  · rw [e1]; exact h
theorem ok_forget {S : sp_S} (h : sp_Ok S) : sp_Ok (o_forget S).2 := by
  obtain ⟨h1, h2, h3, h4, h5, h6, h7, h8, h9⟩ := h
  exact ⟨h1, h2, h3, h4, h5, h6, h7, h8, sg_ok_nil⟩
theorem ok_keep {S : sp_S} (h : sp_Ok S) : sp_Ok (o_keep S).2 := by
  unfold o_keep
  split
  · obtain ⟨h1, h2, h3, h4, h5, h6, h7, h8, h9⟩ := h
    refine ⟨h1, h2, h3, h4, h5, h6, by show (_ ++ [_]).length ≤ 2; simp; omega, fun u hu => ?_, h9⟩
    rcases List.mem_append.mp hu with q | q
    · exact h8 u q
    · rw [List.mem_singleton.mp q]; exact h4
  · exact h
theorem ok_back {S : sp_S} (h : sp_Ok S) : sp_Ok (o_back S).2 := by
  unfold o_back
  split
  · exact h
  · obtain ⟨h1, h2, h3, h4, h5, h6, h7, h8, h9⟩ := h
    exact ⟨h1, h2, h3, h8 _ (sp_getD_mem (by omega)), Nat.zero_le _, fun u hu => (by cases hu), by show (List.take _ _).length ≤ 2; simp; omega, fun u hu => h8 u (List.mem_of_mem_take hu), h9⟩
/-! ===== the class's world ===== -/
def tr_ok (ts : List sp_act) (us : List sp_Bk) (B : sp_Bk) : Prop := ts.length = us.length ∧ ∀ i, i < ts.length → sp_step (sp_ac ts i) (us.getD i B) (us.getD (i + 1) B)
theorem tr_ok_nil {B : sp_Bk} : tr_ok [] [] B := ⟨rfl, fun i hi => absurd hi (Nat.not_lt_zero _)⟩
theorem tr_ok_push {ts : List sp_act} {us : List sp_Bk} {B A : sp_Bk} {e : sp_act} (h : tr_ok ts us B) (he : sp_step e B A) : tr_ok (sp_mk ts ++ [e]) (sp_mk us ++ [B]) A := by
  obtain ⟨hl, hs⟩ := h
  have key : tr_ok (sp_mk ts) (sp_mk us) B := by
    unfold sp_mk
    rw [hl]
    split
    · exact ⟨hl, hs⟩
    · refine ⟨by rw [List.length_tail, List.length_tail, hl], fun i hi => ?_⟩
      rw [List.length_tail] at hi
      have := hs (i + 1) (by omega)
      simp only [sp_ac, List.getD_eq_getElem?_getD, List.getElem?_tail] at this ⊢
      exact this
  obtain ⟨hl, hs⟩ := key
  refine ⟨by simp [hl], fun i hi => ?_⟩
  simp at hi
  rw [sp_ac_snoc]
  by_cases h1 : i < (sp_mk ts).length
  · have := hs i h1
    rw [if_pos h1]
    have e1 : (sp_mk us ++ [B]).getD i A = (sp_mk us).getD i B := by
      simp only [List.getD_eq_getElem?_getD]
      rw [List.getElem?_append_left (by omega), List.getElem?_eq_getElem (by omega)]
      rfl
    have e2 : (sp_mk us ++ [B]).getD (i + 1) A = (sp_mk us).getD (i + 1) B := by
      simp only [List.getD_eq_getElem?_getD]
      by_cases h2 : i + 1 < (sp_mk us).length
      · rw [List.getElem?_append_left h2, List.getElem?_eq_getElem h2]
        rfl
      · rw [List.getElem?_append_right (by omega), List.getElem?_eq_none (l := sp_mk us) (by omega), show i + 1 - (sp_mk us).length = 0 by omega]
        rfl
    rw [e1, e2]
    exact this
  · have hi2 : i = (sp_mk ts).length := by omega
    rw [if_neg h1, if_pos hi2]
    have e1 : (sp_mk us ++ [B]).getD i A = B := by
      simp only [List.getD_eq_getElem?_getD]
      rw [List.getElem?_append_right (by omega), show i - (sp_mk us).length = 0 by omega]
      rfl
    have e2 : (sp_mk us ++ [B]).getD (i + 1) A = A := by
      simp only [List.getD_eq_getElem?_getD]
      rw [List.getElem?_eq_none (by simp; omega)]
      rfl
    rw [e1, e2]
    exact he
theorem tr_ok_pop {ts : List sp_act} {us : List sp_Bk} {B : sp_Bk} (h : tr_ok ts us B) (hn : us.length ≠ 0) : ∃ ts' e, ts = ts' ++ [e] ∧ sp_step e (us.getD (us.length - 1) B) B ∧ tr_ok ts' (us.take (us.length - 1)) (us.getD (us.length - 1) B) := by
  obtain ⟨hl, hs⟩ := h
  obtain ⟨ts', e, rfl⟩ : ∃ ts' e, ts = ts' ++ [e] := by
    have : ts ≠ [] := fun h => hn (by rw [← hl, h]; rfl)
    exact ⟨ts.dropLast, ts.getLast this, (List.dropLast_concat_getLast this).symm⟩
  have hl2 : ts'.length + 1 = us.length := by simpa using hl
  refine ⟨ts', e, rfl, ?_, ?_, fun i hi => ?_⟩
  · have := hs ts'.length (by simp)
    rw [sp_ac_snoc, if_neg (by omega), if_pos rfl] at this
    rw [show us.length - 1 = ts'.length by omega]
    have e2 : us.getD (ts'.length + 1) B = B := by
      rw [List.getD_eq_getElem?_getD, List.getElem?_eq_none (by omega)]
      rfl
    rw [e2] at this
    exact this
  · simp; omega
  · have := hs i (by simp; omega)
    rw [sp_ac_snoc, if_pos hi] at this
    have g : ∀ j, j ≤ ts'.length → (us.take (us.length - 1)).getD j (us.getD (us.length - 1) B) = us.getD j B := by
      intro j hj
      simp only [List.getD_eq_getElem?_getD, List.getElem?_take]
      by_cases h2 : j < us.length - 1
      · rw [if_pos h2, List.getElem?_eq_getElem (by omega)]
        rfl
      · rw [if_neg h2, show us.length - 1 = j by omega]
        rfl
    rw [g i (by omega), g (i + 1) (by omega)]
    exact this
def kp_At (h : ax_H) (p : Nat) (o : Option sp_Bk) : Prop := match o with
  | none => bk_Any h p
  | some B => bk_At h p B.1 B.2
theorem kp_At.any {h : ax_H} {p : Nat} {o : Option sp_Bk} (hK : kp_At h p o) : bk_Any h p := by
  cases o with
  | none => exact hK
  | some B => exact bk_At.any hK
def xs_At (h : ax_H) (S : sp_S) : Prop := ∃ (pb pq : Nat) (ts : List sp_act), ((pb = 40 ∧ pq = 48) ∨ (pb = 48 ∧ pq = 40)) ∧ xq_At h pb pq (nI S.2.2.2.2.1.length) S.2.1 ∧ pa_At h S.1.1 S.1.2 ∧ rd_Any h ∧ bk_At h 5 S.2.2.1.1 S.2.2.1.2 ∧ bk_Any h 10 ∧ kp_At h 15 (S.2.2.2.2.1[0]?) ∧ kp_At h 20 (S.2.2.2.2.1[1]?) ∧ tr_At h ts ∧ tr_ok ts S.2.2.2.1 S.2.2.1 ∧ sg_At h S.2.2.2.2.2 ∧ gi_Any h ∧ bl_Any h pq
abbrev xs_Po (σ : ax_S) (A : sp_A) : Option Value → ax_S → Prop := fun r τ => r = some (.int A.1) ∧ xs_At τ.1 A.2 ∧ ax_fr 0 56 σ τ
/-! transport: cells that are as they were -/
section ON
variable {σ τ : ax_S}
theorem bl_Aw.on {p : Nat} {b : sp_B} {fr : Nat → Int32} (hB : bl_Aw σ.1 p b fr) (h : ∀ q, p ≤ q → q < p + 8 → τ.1 q = σ.1 q) : bl_Aw τ.1 p b fr := by
  obtain ⟨fl, fn, fb, fk, fp, fu, B_o, B_lies, B_leans, B_bends, B_roads, B_kinds, B_paces, B_units, r⟩ := hB
  exact ⟨fl, fn, fb, fk, fp, fu, (h _ (by omega) (by omega)).trans B_o, (h _ (by omega) (by omega)).trans B_lies, (h _ (by omega) (by omega)).trans B_leans, (h _ (by omega) (by omega)).trans B_bends, (h _ (by omega) (by omega)).trans B_roads, (h _ (by omega) (by omega)).trans B_kinds, (h _ (by omega) (by omega)).trans B_paces, (h _ (by omega) (by omega)).trans B_units, r⟩
theorem bl_At.on {p : Nat} {b : sp_B} (hB : bl_At σ.1 p b) (h : ∀ q, p ≤ q → q < p + 8 → τ.1 q = σ.1 q) : bl_At τ.1 p b := by
  obtain ⟨fr, h1, h2⟩ := hB
  exact ⟨fr, h1.on h, h2⟩
theorem bl_Any.on {p : Nat} (hB : bl_Any σ.1 p) (h : ∀ q, p ≤ q → q < p + 8 → τ.1 q = σ.1 q) : bl_Any τ.1 p := by
  obtain ⟨g, t, w, fl, fn, fb, fr, fk, fp, fu, B_o, B_lies, B_leans, B_bends, B_roads, B_kinds, B_paces, B_units⟩ := hB
  exact ⟨g, t, w, fl, fn, fb, fr, fk, fp, fu, (h _ (by omega) (by omega)).trans B_o, (h _ (by omega) (by omega)).trans B_lies, (h _ (by omega) (by omega)).trans B_leans, (h _ (by omega) (by omega)).trans B_bends, (h _ (by omega) (by omega)).trans B_roads, (h _ (by omega) (by omega)).trans B_kinds, (h _ (by omega) (by omega)).trans B_paces, (h _ (by omega) (by omega)).trans B_units⟩
theorem bk_At.on {p dy : Nat} {rs : List sp_rep} (hK : bk_At σ.1 p rs dy) (h : ∀ q, p ≤ q → q < p + 5 → τ.1 q = σ.1 q) : bk_At τ.1 p rs dy := by
  obtain ⟨fw, ff, ft, fs, K_o, K_who, K_from, K_to, K_stadia, r⟩ := hK
  exact ⟨fw, ff, ft, fs, (h _ (by omega) (by omega)).trans K_o, (h _ (by omega) (by omega)).trans K_who, (h _ (by omega) (by omega)).trans K_from, (h _ (by omega) (by omega)).trans K_to, (h _ (by omega) (by omega)).trans K_stadia, r⟩
theorem bk_Any.on {p : Nat} (hK : bk_Any σ.1 p) (h : ∀ q, p ≤ q → q < p + 5 → τ.1 q = σ.1 q) : bk_Any τ.1 p := by
  obtain ⟨s, d, fw, ff, ft, fs, K_o, K_who, K_from, K_to, K_stadia⟩ := hK
  exact ⟨s, d, fw, ff, ft, fs, (h _ (by omega) (by omega)).trans K_o, (h _ (by omega) (by omega)).trans K_who, (h _ (by omega) (by omega)).trans K_from, (h _ (by omega) (by omega)).trans K_to, (h _ (by omega) (by omega)).trans K_stadia⟩
theorem kp_At.on {p : Nat} {o : Option sp_Bk} (hK : kp_At σ.1 p o) (h : ∀ q, p ≤ q → q < p + 5 → τ.1 q = σ.1 q) : kp_At τ.1 p o := by
  cases o with
  | none => exact bk_Any.on hK h
  | some B => exact bk_At.on hK h
theorem pa_At.on {n : Nat} {tx : Nat → Nat} (hP : pa_At σ.1 n tx) (h : ∀ q, 1 ≤ q → q < 3 → τ.1 q = σ.1 q) : pa_At τ.1 n tx := by
  obtain ⟨f, h1, h2, h3⟩ := hP
  exact ⟨f, (h _ (by omega) (by omega)).trans h1, (h _ (by omega) (by omega)).trans h2, h3⟩
theorem rd_Any.on (hP : rd_Any σ.1) (h : ∀ q, 3 ≤ q → q < 5 → τ.1 q = σ.1 q) : rd_Any τ.1 := by
  obtain ⟨v, f, h1, h2⟩ := hP
  exact ⟨v, f, (h _ (by omega) (by omega)).trans h1, (h _ (by omega) (by omega)).trans h2⟩
theorem tr_At.on {ts : List sp_act} (hT : tr_At σ.1 ts) (h : ∀ q, 25 ≤ q → q < 32 → τ.1 q = σ.1 q) : tr_At τ.1 ts := by
  obtain ⟨fp, fw, ff, ft, fs, fd, a1, a2, a3, a4, a5, a6, a7, r⟩ := hT
  exact ⟨fp, fw, ff, ft, fs, fd, (h _ (by omega) (by omega)).trans a1, (h _ (by omega) (by omega)).trans a2, (h _ (by omega) (by omega)).trans a3, (h _ (by omega) (by omega)).trans a4, (h _ (by omega) (by omega)).trans a5, (h _ (by omega) (by omega)).trans a6, (h _ (by omega) (by omega)).trans a7, r⟩
theorem sg_At.on {ss : List sp_rep} (hS : sg_At σ.1 ss) (h : ∀ q, 32 ≤ q → q < 37 → τ.1 q = σ.1 q) : sg_At τ.1 ss := by
  obtain ⟨fw, ff, ft, fs, a1, a2, a3, a4, a5, r⟩ := hS
  exact ⟨fw, ff, ft, fs, (h _ (by omega) (by omega)).trans a1, (h _ (by omega) (by omega)).trans a2, (h _ (by omega) (by omega)).trans a3, (h _ (by omega) (by omega)).trans a4, (h _ (by omega) (by omega)).trans a5, r⟩
theorem gi_Any.on (hG : gi_Any σ.1) (h : ∀ q, 37 ≤ q → q < 40 → τ.1 q = σ.1 q) : gi_Any τ.1 := by
  obtain ⟨v, f, g, a1, a2, a3⟩ := hG
  exact ⟨v, f, g, (h _ (by omega) (by omega)).trans a1, (h _ (by omega) (by omega)).trans a2, (h _ (by omega) (by omega)).trans a3⟩
theorem xq_At.on {pb pq : Nat} {k : Int32} {b : sp_B} (hX : xq_At σ.1 pb pq k b) (h0 : τ.1 0 = σ.1 0) (h : ∀ q, pb ≤ q → q < pb + 8 → τ.1 q = σ.1 q) : xq_At τ.1 pb pq k b := ⟨h0.trans hX.1, hX.2.1.on h, hX.2.2⟩
end ON
