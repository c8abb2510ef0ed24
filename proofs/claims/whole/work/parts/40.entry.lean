/-! ===== the law's entry: what the Statement gives of the start ===== -/
theorem st_in {A : Type} {f : A → Cond} {as : List A} (ps : List Nat) (h : as.map f = ps.filterMap (fun i => lw_tbl[i]?)) : ∀ q ∈ as, f q ∈ lw_tbl := fun q hq => by
  have h1 : f q ∈ as.map f := List.mem_map_of_mem hq
  rw [h] at h1
  obtain ⟨i, -, hi⟩ := List.mem_filterMap.mp h1
  exact List.mem_of_getElem? hi
def st_fF (q : String × Nat × String × String × String × String) : Cond := .fieldLinkNest q.1 q.2.1 q.2.2.1 q.2.2.2.1 q.2.2.2.2.1 q.2.2.2.2.2
def st_fM (q : String × Nat × MethodName × String) : Cond := .methodLinkNest q.1 q.2.1 q.2.2.1 q.2.2.2
theorem st_NF : ∀ q ∈ ax_NF, st_fF q ∈ lw_tbl := st_in [90, 245, 247, 232, 237, 239, 241, 120, 124, 128, 132, 136, 166, 243, 197, 139, 189, 191, 193, 195, 134, 118, 130, 122, 126, 91, 119, 123, 127, 131, 135, 138] (by decide +kernel)
theorem st_NM : ∀ q ∈ ax_NM, st_fM q ∈ lw_tbl := st_in [84, 100, 113, 155, 184, 211, 227, 367, 372, 401, 405, 582, 586, 618, 759, 560, 641, 644, 645, 322, 344, 357, 358, 354, 711, 603, 612, 600] (by decide +kernel)
section ST
variable {s : State} {args : Array Value}
theorem st_arr {ty : FieldType} (h : (Cond.arrayClass ty).before args s = true) : ∃ c : ClassId, ArrOfT s c ty ∧ s.vm.findClass ("[" ++ ty.toString) = some c := by
  obtain ⟨c, k, comp, h1, h2, h3⟩ := Cond.arrayClass_spec (args := args) (first := s) (o := none) (s := s) (idx := []) h
  exact ⟨c, fun n z => ⟨fun k h => (by cases h), k, h2, comp, h3⟩, h1⟩
theorem st_cls (hts : ∀ w ∈ ax_Big, w.before args s = true) : ∃ D : va_G, ∀ (c : Nat) (q : vw_C), vwCl[c]? = some q → u_Kn s q.1 q.2.1 q.2.2 (D.1 c) (D.2 c) := by
  have K : ∀ {c : Nat} {C : String} {T : u_T} {N : Nat}, vwCl[c]? = some (C, T, N) → Cond.instantiable C N ∈ ax_Big → ∃ p : ClassId × (Nat → Nat), ∀ q, vwCl[c]? = some q → u_Kn s q.1 q.2.1 q.2.2 p.1 p.2 := by
    intro c C T N h hi
    obtain ⟨cC, iS, hk⟩ := u_known hts (ax_cls h).1 (hts _ hi)
    refine ⟨(cC, iS), fun q hq => ?_⟩
    rw [h] at hq
    cases hq
    exact hk
  have h0 : ∀ c : Nat, ∃ p : ClassId × (Nat → Nat), ∀ q, vwCl[c]? = some q → u_Kn s q.1 q.2.1 q.2.2 p.1 p.2 := by
    intro c
    match c with
    | 0 => exact K rfl ci_X0
    | 1 => exact K rfl ci_X1
    | 2 => exact K rfl ci_X2
    | 3 => exact K rfl ci_X3
    | 4 => exact K rfl ci_X4
    | 5 => exact K rfl ci_X5
    | 6 => exact K rfl ci_X6
    | 7 => exact K rfl ci_X7
    | 8 => exact K rfl ci_X8
    | n + 9 => exact ⟨(0, fun _ => 0), fun q hq => by simp [vwCl] at hq⟩
  obtain ⟨f, hf⟩ := Classical.axiomOfChoice h0
  exact ⟨(fun c => (f c).1, fun c => (f c).2), fun c q hq => hf c q hq⟩
/-- the base, the four addresses below it, the classes -/
def st_x (z a v t b : Nat) (D : va_G) (cI cB : ClassId) : ax_X := (z, fun n => match n with | 0 => a | 1 => v | 2 => t | _ => b, D, cI, cB)
def st_tm : Term := .string RX7 74
def st_el (j : Nat) : Cond := .eq (.elem (.field st_tm "java/lang/String" "value" "[B") (.int (Int32.ofNat j))) (.int (ax_B1.getD j 0))
def st_G : Cond := Jvm.Cond.and given_1 narrow_1
theorem st_els : (flatC st_G).drop ((flatC st_G).length - 91) = (List.range 91).map st_el := by decide +kernel
theorem st_elm (j : Nat) (hj : j < 91) : st_el j ∈ flatC st_G := by
  have h : st_el j ∈ (flatC st_G).drop ((flatC st_G).length - 91) := by
    rw [st_els]
    exact List.mem_map_of_mem (List.mem_range.mpr hj)
  exact List.mem_of_mem_drop h
theorem st_m1 : Cond.exactly st_tm "java/lang/String" ∈ flatC st_G := by decide +kernel
theorem st_m2 : Cond.eq (.field st_tm "java/lang/String" "coder" "B") (.int 0) ∈ flatC st_G := by decide +kernel
theorem st_m3 : Cond.arrayOf (.field st_tm "java/lang/String" "value" "[B") .byte ∈ flatC st_G := by decide +kernel
theorem st_m4 : Cond.eq (.length (.field st_tm "java/lang/String" "value" "[B")) (.int (Int32.ofNat 91)) ∈ flatC st_G := by decide +kernel
theorem st_m5 : Cond.eq (.static "java/lang/String" "COMPACT_STRINGS" "Z") (.int 1) ∈ flatC st_G := by decide +kernel
theorem st_m6 : Cond.isRef (.static "jdk/internal/util/Preconditions" "SIOOBE_FORMATTER" "Ljava/util/function/BiFunction;") ∈ flatC st_G := by decide +kernel
theorem st_t1 : Cond.laysStatic "java/lang/String" "COMPACT_STRINGS" "Z" ∈ lw_tbl := List.mem_of_getElem? (i := 279) (by decide +kernel)
theorem st_t2 : Cond.initialized "java/lang/String" ∈ lw_tbl := List.mem_of_getElem? (i := 66) (by decide +kernel)
theorem st_t3 : Cond.laysStatic "jdk/internal/util/Preconditions" "SIOOBE_FORMATTER" "Ljava/util/function/BiFunction;" ∈ lw_tbl := List.mem_of_getElem? (i := 295) (by decide +kernel)
theorem st_t4 : Cond.initialized "jdk/internal/util/Preconditions" ∈ lw_tbl := List.mem_of_getElem? (i := 68) (by decide +kernel)
theorem st_t5 : Cond.stringRef RX7 74 ax_T1 ∈ lw_tbl := List.mem_of_getElem? (i := 269) (by decide +kernel)
theorem st_K (b : Nat) (hts : ∀ w ∈ lw_tbl, w.before args s = true) (hg : st_G.before args s = true) : ∃ x : ax_X, x.1 = s.heap.size ∧ x.2.1 3 = b ∧ ax_K x s := by
  have hB : ∀ w ∈ ax_Big, w.before args s = true := fun w hw => hts w (ax_goodL w hw).1
  have hs := flat_of_before _ hg
  obtain ⟨D, hD⟩ := st_cls hB
  obtain ⟨cI, hI1, hI2⟩ := st_arr (hB _ ar_int)
  obtain ⟨cB, hB1, hB2⟩ := st_arr (hB _ ar_byte)
  have hA : ∀ a : Nat, a < s.heap.size → ¬ (fun q : Nat => s.heap.size ≤ q) a := fun a h => Nat.not_le.mpr h
  obtain ⟨adK, adV, hS, hev⟩ := vk_Sof (args := args) (s := s) (N := 1) (tm := fun _ => st_tm) (len := [91]) (byt := [ax_B1]) (A := fun q : Nat => s.heap.size ≤ q)
    (fun i hi => by obtain rfl : i = 0 := by omega
                    decide)
    (fun i _ => hs _ st_m1) (fun i _ => hs _ st_m2) (fun i _ => hs _ st_m3)
    (fun i hi => by obtain rfl : i = 0 := by omega
                    exact hs _ st_m4)
    (fun i hi j hj => by obtain rfl : i = 0 := by omega
                         exact hs _ (st_elm j hj))
    (fun i j hi hj h => absurd (by omega : i = j) h) hA
  have hR : vk_R RX7 74 ax_T1 (adK 0) s := vk_R.of (hts _ st_t5) (hev 0 (by decide))
  have hC : va_Z "java/lang/String" "COMPACT_STRINGS" "Z" (.int 1) (fun q : Nat => s.heap.size ≤ q) s s.heap := va_Zof (hts _ st_t1) (hts _ st_t2) (va_eqi (hs _ st_m5)) hA
  have hF := va_Zqof (hts _ st_t3) (hts _ st_t4) (hs _ st_m6) hA
  have hS1 : vk_S 1 [91] [ax_B1] (fun _ => adK 0) (fun _ => adV 0) (fun q => s.heap.size ≤ q) s s.heap := ⟨fun i hi => by
    obtain rfl : i = 0 := by omega
    exact hS.1 0 hi, fun i j hi hj _ => by omega⟩
  have fin : ∀ t : Nat, (va_Z "jdk/internal/util/Preconditions" "SIOOBE_FORMATTER" "Ljava/util/function/BiFunction;" .null (fun q => s.heap.size ≤ q) s s.heap ∨ va_Z "jdk/internal/util/Preconditions" "SIOOBE_FORMATTER" "Ljava/util/function/BiFunction;" (.ref t) (fun q => s.heap.size ≤ q) s s.heap) → ∃ x : ax_X, x.1 = s.heap.size ∧ x.2.1 3 = b ∧ ax_K x s := by
    intro t ht
    refine ⟨st_x s.heap.size (adK 0) (adV 0) t b D cI cB, rfl, rfl, ⟨hD, fun k q hq => ?_⟩, fun q hq => va_Nw.of rfl (hts _ (st_NF q hq)), fun q hq => va_Nw.of rfl (hts _ (st_NM q hq)), hS1, hR, hC, ht⟩
    match k, hq with
    | 0, hq => cases hq; exact ⟨hI1, hI2⟩
    | 1, hq => cases hq; exact ⟨hB1, hB2⟩
    | k + 2, hq => simp at hq
  rcases hF with h | ⟨t, h⟩
  · exact fin 0 (Or.inl h)
  · exact fin t (Or.inr h)
end ST
