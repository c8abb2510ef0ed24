def ax_Big : List Cond := lw_tbl.filter goodWord
theorem ax_big {w : Cond} (h : w ∈ lw_tbl) (hg : goodWord w = true) : w ∈ ax_Big := List.mem_filter.mpr ⟨h, hg⟩
theorem ax_bigI {w : Cond} (i : Nat) (h : lw_tbl[i]? = some w) (hg : goodWord w = true) : w ∈ ax_Big := ax_big (List.mem_of_getElem? h) hg
theorem ax_good : GoodIn ax_Big ax_Big := fun w h => ⟨h, good_of_word (List.mem_filter.mp h).2⟩
theorem ax_goodL : GoodIn lw_tbl ax_Big := fun w h => ⟨(List.mem_filter.mp h).1, good_of_word (List.mem_filter.mp h).2⟩
theorem ax_inB {ws : List Cond} (ps : List Nat) (hp : ws = ps.filterMap (fun i => lw_tbl[i]?)) (h : ws.all goodWord = true) : ∀ w ∈ ws, w ∈ ax_Big := fun w hw => by
  have h1 := List.all_eq_true.mp h w hw
  rw [hp] at hw
  obtain ⟨i, -, hi⟩ := List.mem_filterMap.mp hw
  exact ax_big (List.mem_of_getElem? hi) h1
set_option maxRecDepth 20000 in
theorem inlX0 : ∀ w ∈ u_ws RX0 TX0 10, w ∈ ax_Big := ax_inB [248, 250, 252, 254, 256, 258, 260, 262, 264, 266] (by decide +kernel) (by decide +kernel)
set_option maxRecDepth 20000 in
theorem inlX1 : ∀ w ∈ u_ws RX1 TX1 6, w ∈ ax_Big := ax_inB [140, 142, 144, 146, 148, 150] (by decide +kernel) (by decide +kernel)
set_option maxRecDepth 20000 in
theorem inlX2 : ∀ w ∈ u_ws RX2 TX2 3, w ∈ ax_Big := ax_inB [218, 220, 222] (by decide +kernel) (by decide +kernel)
set_option maxRecDepth 20000 in
theorem inlX3 : ∀ w ∈ u_ws RX3 TX3 2, w ∈ ax_Big := ax_inB [92, 94] (by decide +kernel) (by decide +kernel)
set_option maxRecDepth 20000 in
theorem inlX4 : ∀ w ∈ u_ws RX4 TX4 2, w ∈ ax_Big := ax_inB [106, 108] (by decide +kernel) (by decide +kernel)
set_option maxRecDepth 20000 in
theorem inlX5 : ∀ w ∈ u_ws RX5 TX5 5, w ∈ ax_Big := ax_inB [198, 200, 202, 204, 206] (by decide +kernel) (by decide +kernel)
set_option maxRecDepth 20000 in
theorem inlX6 : ∀ w ∈ u_ws RX6 TX6 7, w ∈ ax_Big := ax_inB [167, 169, 171, 173, 175, 177, 179] (by decide +kernel) (by decide +kernel)
set_option maxRecDepth 20000 in
theorem inlX7 : ∀ w ∈ u_ws RX7 TX7 12, w ∈ ax_Big := ax_inB [424, 426, 428, 430, 432, 434, 436, 438, 440, 442, 444, 446] (by decide +kernel) (by decide +kernel)
set_option maxRecDepth 20000 in
theorem inlX8 : ∀ w ∈ u_ws RX8 TX8 31, w ∈ ax_Big := ax_inB [848, 850, 852, 854, 856, 858, 860, 862, 864, 866, 868, 870, 872, 874, 876, 878, 880, 882, 884, 886, 888, 890, 892, 894, 896, 898, 900, 902, 904, 906, 908] (by decide +kernel) (by decide +kernel)
/-! ===== the abstract machine: cells by their places, a judgement over them ===== -/
abbrev ax_C : Type := (Bool × Nat × (Nat → Int32)) ⊕ (Nat × List Value)
abbrev ax_H : Type := Nat → Option ax_C
abbrev ax_S : Type := ax_H × Nat
/-- base address, the text's address, the tables' numbers, the classes of int[] and byte[] -/
abbrev ax_X : Type := Nat × (Nat → Nat) × va_G × ClassId × ClassId
abbrev ax_M : Type := MethodName × ByteArray × Nat × Option FieldType
/-- a method, its depth, its new cells and slots -/
abbrev ax_F : Type := ax_M × Nat × Nat × Nat
def ax_cv (x : ax_X) : Value → Value
  | .ref k => .ref (x.1 + k)
  | .retAddr n => .ref (x.2.1 n)
  | v => v
def ax_cE (x : ax_X) : ax_C → va_E
  | .inl a => .inl (cond a.1 x.2.2.2.2 x.2.2.2.1, a.2.1, .inl a.2.2)
  | .inr o => .inr (o.1, o.2.map (ax_cv x))
def ax_D : ax_C := .inr (0, [])
def ax_W (x : ax_X) (σ : ax_S) : va_W := (List.range σ.2).map (fun k => (x.1 + k, ax_cE x ((σ.1 k).getD ax_D)))
def ax_up (h : ax_H) (a : Nat) (c : ax_C) : ax_H := fun q => if q = a then some c else h q
theorem ax_up_eq {h : ax_H} {a : Nat} {c : ax_C} : ax_up h a c a = some c := by simp [ax_up]
theorem ax_up_ne {h : ax_H} {a q : Nat} {c : ax_C} (hq : q ≠ a) : ax_up h a c q = h q := by simp [ax_up, hq]
def ax_NF : List (String × Nat × String × String × String × String) := [("GirthReports", 101, "GirthReports$Paper", "length", "I", "GirthReports"), ("GirthReports", 103, "GirthReports$Ball", "townCount", "I", "GirthReports"), ("GirthReports", 106, "GirthReports$Ball", "walkerCount", "I", "GirthReports"), ("GirthReports", 116, "GirthReports$Ball", "lies", "[I", "GirthReports"), ("GirthReports", 145, "GirthReports$Ball", "kinds", "[I", "GirthReports"), ("GirthReports", 148, "GirthReports$Ball", "paces", "[I", "GirthReports"), ("GirthReports", 151, "GirthReports$Ball", "units", "[I", "GirthReports"), ("GirthReports", 157, "GirthReports$Book", "who", "[I", "GirthReports"), ("GirthReports", 160, "GirthReports$Book", "from", "[I", "GirthReports"), ("GirthReports", 163, "GirthReports$Book", "to", "[I", "GirthReports"), ("GirthReports", 166, "GirthReports$Book", "stadia", "[I", "GirthReports"), ("GirthReports", 178, "GirthReports$Book", "size", "I", "GirthReports"), ("GirthReports", 199, "GirthReports$Trail", "size", "I", "GirthReports"), ("GirthReports", 244, "GirthReports$Ball", "girth", "I", "GirthReports"), ("GirthReports", 247, "GirthReports$Sightings", "size", "I", "GirthReports"), ("GirthReports", 279, "GirthReports$Book", "days", "I", "GirthReports"), ("GirthReports", 317, "GirthReports$Sightings", "who", "[I", "GirthReports"), ("GirthReports", 318, "GirthReports$Sightings", "from", "[I", "GirthReports"), ("GirthReports", 319, "GirthReports$Sightings", "to", "[I", "GirthReports"), ("GirthReports", 320, "GirthReports$Sightings", "stadia", "[I", "GirthReports"), ("GirthReports$Girths", 22, "GirthReports$Book", "size", "I", "GirthReports"), ("GirthReports$Girths", 25, "GirthReports$Book", "who", "[I", "GirthReports"), ("GirthReports$Girths", 32, "GirthReports$Book", "stadia", "[I", "GirthReports"), ("GirthReports$Girths", 35, "GirthReports$Book", "from", "[I", "GirthReports"), ("GirthReports$Girths", 38, "GirthReports$Book", "to", "[I", "GirthReports"), ("GirthReports$Reader", 24, "GirthReports$Paper", "length", "I", "GirthReports"), ("GirthReports$Trail", 41, "GirthReports$Book", "who", "[I", "GirthReports"), ("GirthReports$Trail", 48, "GirthReports$Book", "from", "[I", "GirthReports"), ("GirthReports$Trail", 49, "GirthReports$Book", "to", "[I", "GirthReports"), ("GirthReports$Trail", 50, "GirthReports$Book", "stadia", "[I", "GirthReports"), ("GirthReports$Trail", 51, "GirthReports$Book", "size", "I", "GirthReports"), ("GirthReports$Trail", 56, "GirthReports$Book", "days", "I", "GirthReports")]
def ax_NM : List (String × Nat × MethodName × String) := [("GirthReports", 11, ⟨"GirthReports$Paper", "<init>", "()V"⟩, "GirthReports"), ("GirthReports", 18, ⟨"GirthReports$Reader", "<init>", "()V"⟩, "GirthReports"), ("GirthReports", 25, ⟨"GirthReports$Book", "<init>", "()V"⟩, "GirthReports"), ("GirthReports", 41, ⟨"GirthReports$Trail", "<init>", "()V"⟩, "GirthReports"), ("GirthReports", 48, ⟨"GirthReports$Sightings", "<init>", "()V"⟩, "GirthReports"), ("GirthReports", 55, ⟨"GirthReports$Girths", "<init>", "()V"⟩, "GirthReports"), ("GirthReports", 62, ⟨"GirthReports$Ball", "<init>", "()V"⟩, "GirthReports"), ("GirthReports$Ball", 64, ⟨"GirthReports", "within", "(III)Z"⟩, "GirthReports"), ("GirthReports$Ball", 67, ⟨"GirthReports", "put", "([III)V"⟩, "GirthReports"), ("GirthReports$Ball", 78, ⟨"GirthReports", "at", "([II)I"⟩, "GirthReports"), ("GirthReports$Ball", 82, ⟨"GirthReports", "cut", "(JI)I"⟩, "GirthReports"), ("GirthReports$Book", 35, ⟨"GirthReports", "openGap", "([III)V"⟩, "GirthReports"), ("GirthReports$Book", 39, ⟨"GirthReports", "put", "([III)V"⟩, "GirthReports"), ("GirthReports$Book", 46, ⟨"GirthReports", "closeGap", "([III)V"⟩, "GirthReports"), ("GirthReports$Book", 49, ⟨"GirthReports", "copyRow", "([I[I)V"⟩, "GirthReports"), ("GirthReports$Book", 53, ⟨"GirthReports", "at", "([II)I"⟩, "GirthReports"), ("GirthReports$Girths", 28, ⟨"GirthReports", "at", "([II)I"⟩, "GirthReports"), ("GirthReports$Girths", 51, ⟨"GirthReports", "put", "([III)V"⟩, "GirthReports"), ("GirthReports$Girths", 55, ⟨"GirthReports", "nineTenths", "(I)I"⟩, "GirthReports"), ("GirthReports$Paper", 19, ⟨"GirthReports", "put", "([III)V"⟩, "GirthReports"), ("GirthReports$Paper", 23, ⟨"GirthReports", "at", "([II)I"⟩, "GirthReports"), ("GirthReports$Reader", 47, ⟨"GirthReports", "put", "([III)V"⟩, "GirthReports"), ("GirthReports$Reader", 51, ⟨"GirthReports", "at", "([II)I"⟩, "GirthReports"), ("GirthReports$Reader", 59, ⟨"GirthReports", "within", "(III)Z"⟩, "GirthReports"), ("GirthReports$Sightings", 28, ⟨"GirthReports", "put", "([III)V"⟩, "GirthReports"), ("GirthReports$Trail", 37, ⟨"GirthReports", "put", "([III)V"⟩, "GirthReports"), ("GirthReports$Trail", 44, ⟨"GirthReports", "at", "([II)I"⟩, "GirthReports"), ("GirthReports$Trail", 62, ⟨"GirthReports", "closeGap", "([III)V"⟩, "GirthReports")]
/-- the class's first text -/
def ax_T1 : String := "g36;t24,4;t31,5;t38,4;t60,2;r0,1,6;r1,2,15;r0,2,10;r2,3,30;w0,20,9;w1,25,8;w2,15,9;w3,30,5;"
def ax_B1 : List Int32 := [103, 51, 54, 59, 116, 50, 52, 44, 52, 59, 116, 51, 49, 44, 53, 59, 116, 51, 56, 44, 52, 59, 116, 54, 48, 44, 50, 59, 114, 48, 44, 49, 44, 54, 59, 114, 49, 44, 50, 44, 49, 53, 59, 114, 48, 44, 50, 44, 49, 48, 59, 114, 50, 44, 51, 44, 51, 48, 59, 119, 48, 44, 50, 48, 44, 57, 59, 119, 49, 44, 50, 53, 44, 56, 59, 119, 50, 44, 49, 53, 44, 57, 59, 119, 51, 44, 51, 48, 44, 53, 59]
/-- what stands below the base: the text (place 0), its bytes (place 1), the JDK's statics (place 2) -/
def ax_Z (x : ax_X) (U : State) (H : Heap) : Prop := vk_S 1 [91] [ax_B1] (fun _ => x.2.1 0) (fun _ => x.2.1 1) (fun q => x.1 ≤ q) U H ∧ vk_R RX7 74 ax_T1 (x.2.1 0) U ∧ va_Z "java/lang/String" "COMPACT_STRINGS" "Z" (.int 1) (fun q => x.1 ≤ q) U H ∧ (va_Z "jdk/internal/util/Preconditions" "SIOOBE_FORMATTER" "Ljava/util/function/BiFunction;" .null (fun q => x.1 ≤ q) U H ∨ va_Z "jdk/internal/util/Preconditions" "SIOOBE_FORMATTER" "Ljava/util/function/BiFunction;" (.ref (x.2.1 2)) (fun q => x.1 ≤ q) U H)
theorem ax_Z.warm {x : ax_X} {s U : State} (hW : s.WarmedH U.vm) (hH : ∀ a : Nat, a < s.heap.size → ¬ x.1 ≤ a → U.heap[a]? = s.heap[a]?) (h : ax_Z x s s.heap) : ax_Z x U U.heap :=
  ⟨(h.1.kept hH).moved hW.alike, h.2.1.warm hW, (h.2.2.1.kept hH).moved hW.alike, h.2.2.2.imp (fun q => (q.kept hH).moved hW.alike) (fun q => (q.kept hH).moved hW.alike)⟩
theorem ax_Z.same {x : ax_X} {s U : State} (hv : s.vm = U.vm) (hh : s.heap = U.heap) (h : ax_Z x s s.heap) : ax_Z x U U.heap := by
  have ha : s.vm.Alike U.vm := by rw [hv]; exact Vm.Alike.refl _
  rw [← hh]
  exact ⟨h.1.moved ha, h.2.1.same hv.symm, h.2.2.1.moved ha, h.2.2.2.imp (fun q => q.moved ha) (fun q => q.moved ha)⟩
def ax_K (x : ax_X) (U : State) : Prop := va_K x.2.2.1 vwCl [(x.2.2.2.1, .int), (x.2.2.2.2, .byte)] U ∧ (∀ q ∈ ax_NF, va_Nw (.fieldLinkNest q.1 q.2.1 q.2.2.1 q.2.2.2.1 q.2.2.2.2.1 q.2.2.2.2.2) U) ∧ (∀ q ∈ ax_NM, va_Nw (.methodLinkNest q.1 q.2.1 q.2.2.1 q.2.2.2) U) ∧ ax_Z x U U.heap
theorem ax_K.warm {x : ax_X} {s U : State} (hW : s.WarmedH U.vm) (hH : ∀ a : Nat, a < s.heap.size → ¬ x.1 ≤ a → U.heap[a]? = s.heap[a]?) (h : ax_K x s) : ax_K x U := ⟨va_K.moved hW.alike h.1, fun q hq => va_Nw.warmF hW (h.2.1 q hq), fun q hq => va_Nw.warmM hW (h.2.2.1 q hq), h.2.2.2.warm hW hH⟩
theorem ax_K.same {x : ax_X} {s U : State} (hv : s.vm = U.vm) (hh : s.heap = U.heap) (h : ax_K x s) : ax_K x U := ⟨va_K.moved (by rw [hv]; exact Vm.Alike.refl _) h.1, fun q hq => va_Nw.same rfl hv (h.2.1 q hq), fun q hq => va_Nw.same rfl hv (h.2.2.1 q hq), h.2.2.2.same hv hh⟩
def ax_Hp (x : ax_X) (σ : ax_S) (s : State) (H : Heap) (locs : List Loc) : Prop :=
  H.size = x.1 + σ.2 ∧ va_P x.2.2.1 vwCl (ax_W x σ) H ∧ (∀ k, (σ.1 k).isSome = true ↔ k < σ.2) ∧ va_S (fun q => x.1 ≤ q) s.heap H locs ∧ x.1 ≤ s.heap.size
def ax_In (x : ax_X) (σ : ax_S) (U : State) : Prop :=
  U.heap.size = x.1 + σ.2 ∧ va_P x.2.2.1 vwCl (ax_W x σ) U.heap ∧ (∀ k, (σ.1 k).isSome = true ↔ k < σ.2) ∧ ax_K x U
def ax_Cx (F : ax_F) (p : Program) (s : State) (m : MethodId) (args : Array Value) (meth : Method) (c : Code) (x : ax_X) : Prop :=
  p.tables.exec = Jvm.exec ∧ c.code = F.1.2.1 ∧ meth.sig.returnType = F.1.2.2.2 ∧ meth.locks = false ∧ c.maxLocals = F.1.2.2.1 ∧ s.vm.findClass F.1.1.cls = some m.cls ∧ meth.name = F.1.1.name ∧ (∀ w ∈ ax_Big, w.before args s = true) ∧ ax_K x s
def ax_Ls (x : ax_X) (nL : Nat) (lsA : Array Slot) (ls : List (Option Value)) : Prop :=
  lsA.size = nL ∧ lv_wf lsA ∧ ∀ (i : Nat) (v : Value), ls[i]? = some (some v) → lsA[i]? = some (.val (ax_cv x v))
def ax_Rm (d mc ms : Nat) : Room := { frames := d, cells := mc, slots := ms, locals := 35 * d }
def ax_Q (x : ax_X) (post : Option Value → ax_S → Prop) : Array Value → State → Outcome → State → Prop := fun _ st o t =>
  (∃ (r : Option Value) (σ : ax_S), o = .returned (r.map (ax_cv x)) ∧ post r σ ∧ ax_In x σ t) ∧ va_F (fun q => x.1 ≤ q) st t
/-- THE JUDGEMENT: from this frame of F's method over the abstract heap σ the method comes to its end with 'post' -/
def ax_J (F : ax_F) (k w pc : Nat) (ls : List (Option Value)) (st : List Value) (σ : ax_S) (post : Option Value → ax_S → Prop) : Prop :=
  ∀ (p : Program) (l : Launch) (e : Env) (s : State) (m : MethodId) (args : Array Value) (below : List Frame) (meth : Method) (c : Code) (x : ax_X) (H : Heap) (locs : List Loc) (lsA : Array Slot),
    ax_Cx F p s m args meth c x → ax_Hp x σ s H locs → ax_Ls x F.1.2.2.1 lsA ls →
    W p l e (ax_Rm F.2.1 F.2.2.1 F.2.2.2) s m args below meth c H locs k w (MQ below (ax_Q x post) args s F.2.2.1 F.2.2.2 (fun q => x.1 ≤ q)) (F0 m pc lsA (st.map (ax_cv x)))
def ax_Ws (M : ax_M) : List Cond := Cond.code M.1 M.2.1 M.2.2.1 M.2.2.2 :: ax_Big
def ax_Pc (x : ax_X) (av : List Value) (σ : ax_S) : Array Value → State → Prop := fun v U => v = (av.map (ax_cv x)).toArray ∧ ax_In x σ U
/-- A CONTRACT: called with av over σ, M answers by 'post' -/
def ax_N (M : ax_M) (d mc ms : Nat) (av : List Value) (σ : ax_S) (post : Option Value → ax_S → Prop) : Prop :=
  ∀ (l : Launch) (x : ax_X), Met l M.1 (ax_Ws M) (ax_Rm d mc ms) (ax_Pc x av σ) (ax_Q x post) mc ms (fun q => x.1 ≤ q)
/-- a contract of a method that only reads -/
abbrev ax_R (M : ax_M) (d : Nat) (av : List Value) (σ : ax_S) (v : Value) : Prop := ax_N M d 0 0 av σ (fun r σ' => r = some v ∧ σ' = σ)
theorem ax_W_get {x : ax_X} {σ : ax_S} {a : Nat} {c : ax_C} (hi : ∀ k, (σ.1 k).isSome = true ↔ k < σ.2) (h : σ.1 a = some c) : (ax_W x σ)[a]? = some (x.1 + a, ax_cE x c) := by
  have hl : a < σ.2 := (hi a).mp (by rw [h]; rfl)
  simp [ax_W, hl, h]
theorem ax_W_len {x : ax_X} {σ : ax_S} : (ax_W x σ).length = σ.2 := by simp [ax_W]
theorem ax_W_D {x : ax_X} {σ : ax_S} : va_D (fun q => x.1 ≤ q) (ax_W x σ) := by
  refine ⟨fun i j p q hp hq h => ?_, fun k q hq => ?_⟩
  · simp only [ax_W, List.getElem?_map, Option.map_eq_some_iff] at hp hq
    obtain ⟨a, ha, rfl⟩ := hp
    obtain ⟨b, hb, rfl⟩ := hq
    have ea := (List.getElem?_eq_some_iff.mp ha).2
    have eb := (List.getElem?_eq_some_iff.mp hb).2
    simp at ea eb h
    omega
  · simp only [ax_W, List.getElem?_map, Option.map_eq_some_iff] at hq
    obtain ⟨a, ha, rfl⟩ := hq
    show x.1 ≤ x.1 + a
    omega
theorem ax_W_set {x : ax_X} {σ : ax_S} {a : Nat} {c : ax_C} : (ax_W x σ).set a (x.1 + a, ax_cE x c) = ax_W x (ax_up σ.1 a c, σ.2) := by
  apply List.ext_getElem?
  intro i
  rw [List.getElem?_set]
  by_cases h : a = i
  · subst h
    by_cases hl : a < σ.2
    · simp [ax_W, hl, ax_up]
    · simp [ax_W, hl]
  · simp only [if_neg h, ax_W, List.getElem?_map]
    by_cases hl : i < σ.2
    · simp [hl, ax_up, Ne.symm h]
    · simp [hl]
theorem ax_W_push {x : ax_X} {σ : ax_S} {c : ax_C} : ax_W x σ ++ [(x.1 + σ.2, ax_cE x c)] = ax_W x (ax_up σ.1 σ.2 c, σ.2 + 1) := by
  apply List.ext_getElem?
  intro i
  by_cases hl : i < σ.2
  · rw [List.getElem?_append_left (by rw [ax_W_len]; exact hl)]
    have h1 : i < σ.2 + 1 := by omega
    have h2 : i ≠ σ.2 := by omega
    simp [ax_W, hl, h1, ax_up, h2]
  · rw [List.getElem?_append_right (by rw [ax_W_len]; omega), ax_W_len]
    by_cases he : i = σ.2
    · subst he
      simp [ax_W, ax_up]
    · have h1 : ¬ i < σ.2 + 1 := by omega
      have h2 : 0 < i - σ.2 := by omega
      simp [ax_W, h1, h2]
      omega
theorem ax_up_some {σ : ax_S} {a : Nat} {c0 c : ax_C} (hi : ∀ k, (σ.1 k).isSome = true ↔ k < σ.2) (h : σ.1 a = some c0) : ∀ k, ((ax_up σ.1 a c) k).isSome = true ↔ k < σ.2 := by
  intro k
  by_cases hk : k = a
  · subst hk
    have hl : k < σ.2 := (hi k).mp (by rw [h]; rfl)
    simp [ax_up, hl]
  · simp only [ax_up, if_neg hk]
    exact hi k
theorem ax_up_push {σ : ax_S} {c : ax_C} (hi : ∀ k, (σ.1 k).isSome = true ↔ k < σ.2) : ∀ k, ((ax_up σ.1 σ.2 c) k).isSome = true ↔ k < σ.2 + 1 := by
  intro k
  by_cases hk : k = σ.2
  · subst hk
    simp [ax_up]
  · simp only [ax_up, if_neg hk]
    rw [hi k]
    omega
theorem ax_In.of {x : ax_X} {σ : ax_S} {s t : State} {H : Heap} {locs : List Loc} (h : ax_Hp x σ s H locs) (hK : ax_K x s) (ht : t.heap = H) (hW : s.WarmedH t.vm) : ax_In x σ t :=
  ⟨by rw [ht]; exact h.1, by rw [ht]; exact h.2.1, h.2.2.1, hK.warm hW (fun a h1 h2 => by rw [ht]; exact h.2.2.2.1.2.1 a h1 h2)⟩
/-- strict lists: the answer is laid out -/
def ax_set {R : Type} : List Value → Nat → Value → (List Value → Option R) → Option R
  | [], _, _, _ => none
  | _ :: t, 0, v, k => k (v :: t)
  | a :: t, n + 1, v, k => ax_set t n v (fun t' => k (a :: t'))
theorem ax_set_of {R : Type} : ∀ (l : List Value) (n : Nat) (v : Value) (k : List Value → Option R) (r : R), ax_set l n v k = some r → n < l.length ∧ k (l.set n v) = some r := by
  intro l
  induction l with
  | nil => intro n v k r h; simp [ax_set] at h
  | cons a t ih =>
    intro n v k r h
    cases n with
    | zero => exact ⟨by simp, h⟩
    | succ n =>
      obtain ⟨h1, h2⟩ := ih n v _ r h
      exact ⟨by simp; omega, h2⟩
/-- a value of one slot goes to place i of the locals -/
def ax_st1 {R : Type} : List (Option Value) → Nat → Value → (List (Option Value) → Option R) → Option R
  | [], _, _, _ => none
  | _ :: t, 0, v, k => k (some v :: t)
  | a :: t, 1, v, k => match a with
    | some (.long _) => ax_st1 t 0 v (fun t' => k (none :: t'))
    | some (.double _) => none
    | none => ax_st1 t 0 v (fun t' => k (none :: t'))
    | some b => ax_st1 t 0 v (fun t' => k (some b :: t'))
  | a :: t, n + 2, v, k => ax_st1 t (n + 1) v (fun t' => k (a :: t'))
def ax_st2 {R : Type} : List (Option Value) → Nat → Value → (List (Option Value) → Option R) → Option R
  | [], _, _, _ => none
  | [_], 0, _, _ => none
  | _ :: _ :: t, 0, v, k => k (some v :: none :: t)
  | a :: t, 1, v, k => match a with
    | some (.long _) => ax_st2 t 0 v (fun t' => k (none :: t'))
    | some (.double _) => none
    | none => ax_st2 t 0 v (fun t' => k (none :: t'))
    | some b => ax_st2 t 0 v (fun t' => k (some b :: t'))
  | a :: t, n + 2, v, k => ax_st2 t (n + 1) v (fun t' => k (a :: t'))
/-- what a store of one slot keeps -/
def ax_kp (ls : List (Option Value)) (i : Nat) (v : Value) (ls' : List (Option Value)) : Prop :=
  ∀ (j : Nat) (u : Value), ls'[j]? = some (some u) → (j = i ∧ u = v) ∨ (j ≠ i ∧ ls[j]? = some (some u) ∧ ¬ (j + 1 = i ∧ u.category = 2))
theorem ax_kp_cons {a a' : Option Value} {t t' : List (Option Value)} {n : Nat} {v : Value} (h : ax_kp t n v t') (ha : ∀ u, a' = some u → a = some u ∧ ¬ (n = 0 ∧ u.category = 2)) : ax_kp (a :: t) (n + 1) v (a' :: t') := by
  intro j u hj
  cases j with
  | zero =>
    have e : a' = some u := by simpa using hj
    obtain ⟨h1, h2⟩ := ha u e
    exact Or.inr ⟨by omega, by simp [h1], fun q => h2 ⟨by omega, q.2⟩⟩
  | succ j =>
    have e : t'[j]? = some (some u) := by simpa using hj
    rcases h j u e with ⟨h1, h2⟩ | ⟨h1, h2, h3⟩
    · exact Or.inl ⟨by omega, h2⟩
    · exact Or.inr ⟨by omega, by simpa using h2, fun q => h3 ⟨by omega, q.2⟩⟩
theorem ax_kp_0 {a : Option Value} {t : List (Option Value)} {v : Value} : ax_kp (a :: t) 0 v (some v :: t) := by
  intro j u hj
  cases j with
  | zero => exact Or.inl ⟨rfl, by simpa using hj.symm⟩
  | succ j => exact Or.inr ⟨by omega, by simpa using hj, fun q => by omega⟩
theorem ax_st1_of {R : Type} : ∀ (ls : List (Option Value)) (i : Nat) (v : Value) (k : List (Option Value) → Option R) (r : R), ax_st1 ls i v k = some r → i < ls.length ∧ ∃ ls', k ls' = some r ∧ ax_kp ls i v ls' := by
  intro ls
  induction ls with
  | nil => intro i v k r h; simp [ax_st1] at h
  | cons a t ih =>
    intro i v k r h
    match i with
    | 0 => exact ⟨by simp, _, h, ax_kp_0⟩
    | 1 =>
      match a, h with
      | none, h =>
        obtain ⟨h1, ls', h2, h3⟩ := ih 0 v _ r h
        exact ⟨by simp; omega, _, h2, ax_kp_cons h3 (fun u e => by cases e)⟩
      | some (.long y), h =>
        obtain ⟨h1, ls', h2, h3⟩ := ih 0 v _ r h
        exact ⟨by simp; omega, _, h2, ax_kp_cons h3 (fun u e => by cases e)⟩
      | some (.double y), h => simp [ax_st1] at h
      | some (.int y), h =>
        obtain ⟨h1, ls', h2, h3⟩ := ih 0 v _ r h
        exact ⟨by simp; omega, _, h2, ax_kp_cons h3 (fun u e => ⟨e, by cases e; simp [Value.category]⟩)⟩
      | some (.float y), h =>
        obtain ⟨h1, ls', h2, h3⟩ := ih 0 v _ r h
        exact ⟨by simp; omega, _, h2, ax_kp_cons h3 (fun u e => ⟨e, by cases e; simp [Value.category]⟩)⟩
      | some .null, h =>
        obtain ⟨h1, ls', h2, h3⟩ := ih 0 v _ r h
        exact ⟨by simp; omega, _, h2, ax_kp_cons h3 (fun u e => ⟨e, by cases e; simp [Value.category]⟩)⟩
      | some (.ref y), h =>
        obtain ⟨h1, ls', h2, h3⟩ := ih 0 v _ r h
        exact ⟨by simp; omega, _, h2, ax_kp_cons h3 (fun u e => ⟨e, by cases e; simp [Value.category]⟩)⟩
      | some (.retAddr y), h =>
        obtain ⟨h1, ls', h2, h3⟩ := ih 0 v _ r h
        exact ⟨by simp; omega, _, h2, ax_kp_cons h3 (fun u e => ⟨e, by cases e; simp [Value.category]⟩)⟩
    | n + 2 =>
      obtain ⟨h1, ls', h2, h3⟩ := ih (n + 1) v _ r h
      exact ⟨by simp; omega, _, h2, ax_kp_cons h3 (fun u e => ⟨e, by omega⟩)⟩
def ax_kp2 (ls : List (Option Value)) (i : Nat) (v : Value) (ls' : List (Option Value)) : Prop :=
  ∀ (j : Nat) (u : Value), ls'[j]? = some (some u) → (j = i ∧ u = v) ∨ (j ≠ i ∧ j ≠ i + 1 ∧ ls[j]? = some (some u) ∧ ¬ (j + 1 = i ∧ u.category = 2))
theorem ax_kp2_cons {a a' : Option Value} {t t' : List (Option Value)} {n : Nat} {v : Value} (h : ax_kp2 t n v t') (ha : ∀ u, a' = some u → a = some u ∧ ¬ (n = 0 ∧ u.category = 2)) : ax_kp2 (a :: t) (n + 1) v (a' :: t') := by
  intro j u hj
  cases j with
  | zero =>
    have e : a' = some u := by simpa using hj
    obtain ⟨h1, h2⟩ := ha u e
    exact Or.inr ⟨by omega, by omega, by simp [h1], fun q => h2 ⟨by omega, q.2⟩⟩
  | succ j =>
    have e : t'[j]? = some (some u) := by simpa using hj
    rcases h j u e with ⟨h1, h2⟩ | ⟨h1, h0, h2, h3⟩
    · exact Or.inl ⟨by omega, h2⟩
    · exact Or.inr ⟨by omega, by omega, by simpa using h2, fun q => h3 ⟨by omega, q.2⟩⟩
theorem ax_kp2_0 {a b : Option Value} {t : List (Option Value)} {v : Value} : ax_kp2 (a :: b :: t) 0 v (some v :: none :: t) := by
  intro j u hj
  match j with
  | 0 => exact Or.inl ⟨rfl, by simpa using hj.symm⟩
  | 1 => simp at hj
  | j + 2 => exact Or.inr ⟨by omega, by omega, by simpa using hj, fun q => by omega⟩
theorem ax_st2_of {R : Type} : ∀ (ls : List (Option Value)) (i : Nat) (v : Value) (k : List (Option Value) → Option R) (r : R), ax_st2 ls i v k = some r → i + 1 < ls.length ∧ ∃ ls', k ls' = some r ∧ ax_kp2 ls i v ls' := by
  intro ls
  induction ls with
  | nil => intro i v k r h; simp [ax_st2] at h
  | cons a t ih =>
    intro i v k r h
    match i with
    | 0 =>
      match t, h with
      | [], h => simp [ax_st2] at h
      | b :: t, h => exact ⟨by simp, _, h, ax_kp2_0⟩
    | 1 =>
      match a, h with
      | none, h =>
        obtain ⟨h1, ls', h2, h3⟩ := ih 0 v _ r (by simpa [ax_st2] using h)
        exact ⟨by simp; omega, _, h2, ax_kp2_cons h3 (fun u e => by cases e)⟩
      | some (.long y), h =>
        obtain ⟨h1, ls', h2, h3⟩ := ih 0 v _ r (by simpa [ax_st2] using h)
        exact ⟨by simp; omega, _, h2, ax_kp2_cons h3 (fun u e => by cases e)⟩
      | some (.double y), h => simp [ax_st2] at h
      | some (.int y), h =>
        obtain ⟨h1, ls', h2, h3⟩ := ih 0 v _ r (by simpa [ax_st2] using h)
        exact ⟨by simp; omega, _, h2, ax_kp2_cons h3 (fun u e => ⟨e, by cases e; simp [Value.category]⟩)⟩
      | some (.float y), h =>
        obtain ⟨h1, ls', h2, h3⟩ := ih 0 v _ r (by simpa [ax_st2] using h)
        exact ⟨by simp; omega, _, h2, ax_kp2_cons h3 (fun u e => ⟨e, by cases e; simp [Value.category]⟩)⟩
      | some .null, h =>
        obtain ⟨h1, ls', h2, h3⟩ := ih 0 v _ r (by simpa [ax_st2] using h)
        exact ⟨by simp; omega, _, h2, ax_kp2_cons h3 (fun u e => ⟨e, by cases e; simp [Value.category]⟩)⟩
      | some (.ref y), h =>
        obtain ⟨h1, ls', h2, h3⟩ := ih 0 v _ r (by simpa [ax_st2] using h)
        exact ⟨by simp; omega, _, h2, ax_kp2_cons h3 (fun u e => ⟨e, by cases e; simp [Value.category]⟩)⟩
      | some (.retAddr y), h =>
        obtain ⟨h1, ls', h2, h3⟩ := ih 0 v _ r (by simpa [ax_st2] using h)
        exact ⟨by simp; omega, _, h2, ax_kp2_cons h3 (fun u e => ⟨e, by cases e; simp [Value.category]⟩)⟩
    | n + 2 =>
      obtain ⟨h1, ls', h2, h3⟩ := ih (n + 1) v _ r (by simpa [ax_st2] using h)
      exact ⟨by simp; omega, _, h2, ax_kp2_cons h3 (fun u e => ⟨e, by omega⟩)⟩
/-- the listed locals, as the kit has them -/
def ax_ll (x : ax_X) (ls : List (Option Value)) : List (Nat × Value) := (List.range ls.length).filterMap (fun i => (ls[i]?.join).map (fun v => (i, ax_cv x v)))
theorem ax_ll_mem {x : ax_X} {ls : List (Option Value)} {q : Nat × Value} : q ∈ ax_ll x ls ↔ ∃ v, ls[q.1]? = some (some v) ∧ q.2 = ax_cv x v := by
  simp only [ax_ll, List.mem_filterMap, List.mem_range, Option.map_eq_some_iff, Option.join_eq_some_iff]
  constructor
  · rintro ⟨i, hi, v, hv, rfl⟩
    exact ⟨v, hv, rfl⟩
  · rintro ⟨v, hv, e⟩
    exact ⟨q.1, (List.getElem?_eq_some_iff.mp hv).1, v, hv, by rw [← e]⟩
theorem ax_Ls.has {x : ax_X} {nL : Nat} {lsA : Array Slot} {ls : List (Option Value)} (h : ax_Ls x nL lsA ls) : lv_has lsA nL (ax_ll x ls) := by
  refine ⟨h.1, h.2.1, fun q hq => ?_⟩
  obtain ⟨v, hv, e⟩ := ax_ll_mem.mp hq
  rw [e]
  exact h.2.2 q.1 v hv
theorem ax_cv_cat {x : ax_X} (v : Value) : (ax_cv x v).category = v.category := by cases v <;> rfl
theorem ax_Ls.st1 {x : ax_X} {nL i : Nat} {lsA : Array Slot} {ls ls' : List (Option Value)} {v : Value} (h : lv_has lsA nL ((i, ax_cv x v) :: (ax_ll x ls).filter (fun q => !(q.1 == i) && !(q.1 + 1 == i && q.2.category == 2)))) (hk : ax_kp ls i v ls') : ax_Ls x nL lsA ls' := by
  refine ⟨h.1, h.2.1, fun j u hj => ?_⟩
  rcases hk j u hj with ⟨rfl, rfl⟩ | ⟨h1, h2, h3⟩
  · exact h.2.2 (j, ax_cv x u) List.mem_cons_self
  · refine h.2.2 (j, ax_cv x u) (List.mem_cons_of_mem _ (List.mem_filter.mpr ⟨ax_ll_mem.mpr ⟨u, h2, rfl⟩, ?_⟩))
    simp only [ax_cv_cat]
    simp only [h1, beq_iff_eq, bne_iff_ne, Bool.and_eq_true, Bool.not_eq_true', beq_eq_false_iff_ne, Bool.and_eq_false_iff, ne_eq, not_false_eq_true, true_and]
    exact Classical.not_and_iff_not_or_not.mp h3
theorem ax_Ls.st2 {x : ax_X} {nL i : Nat} {lsA : Array Slot} {ls ls' : List (Option Value)} {v : Value} (h : lv_has lsA nL ((i, ax_cv x v) :: (ax_ll x ls).filter (fun q => !(q.1 == i) && (!(q.1 == i + 1) && !(q.1 + 1 == i && q.2.category == 2))))) (hk : ax_kp2 ls i v ls') : ax_Ls x nL lsA ls' := by
  refine ⟨h.1, h.2.1, fun j u hj => ?_⟩
  rcases hk j u hj with ⟨rfl, rfl⟩ | ⟨h1, h0, h2, h3⟩
  · exact h.2.2 (j, ax_cv x u) List.mem_cons_self
  · refine h.2.2 (j, ax_cv x u) (List.mem_cons_of_mem _ (List.mem_filter.mpr ⟨ax_ll_mem.mpr ⟨u, h2, rfl⟩, ?_⟩))
    simp only [ax_cv_cat]
    simp only [h1, h0, beq_iff_eq, bne_iff_ne, Bool.and_eq_true, Bool.not_eq_true', beq_eq_false_iff_ne, Bool.and_eq_false_iff, ne_eq, not_false_eq_true, true_and]
    exact Classical.not_and_iff_not_or_not.mp h3
section AXR
variable {F : ax_F} {k w pc pc' : Nat} {ls ls' : List (Option Value)} {st : List Value} {σ : ax_S} {post : Option Value → ax_S → Prop}
theorem ax_iconst {n : Int} {v : Int32} (hv : Int32.ofInt n = v) (hd : decode F.1.2.1 pc = .ok (.iconst n, 1)) (hp : pc + 1 = pc') (kk : ax_J F k w pc' ls (.int v :: st) σ post) : ax_J F k w pc ls (st) σ post := by
  subst hp
  intro p l e s m args below meth c x H locs lsA C Hp L
  exact lv_iconst C.1 C.2.1 hd hv (kk p l e s m args below meth c x H locs lsA C Hp L)
theorem ax_bipush {n : Int} {v : Int32} (hv : (Int8.ofInt n).toInt32 = v) (hd : decode F.1.2.1 pc = .ok (.bipush n, 2)) (hp : pc + 2 = pc') (kk : ax_J F k w pc' ls (.int v :: st) σ post) : ax_J F k w pc ls (st) σ post := by
  subst hp
  intro p l e s m args below meth c x H locs lsA C Hp L
  exact lv_bipush C.1 C.2.1 hd hv (kk p l e s m args below meth c x H locs lsA C Hp L)
theorem ax_sipush {n : Int} {v : Int32} (hv : (Int16.ofInt n).toInt32 = v) (hd : decode F.1.2.1 pc = .ok (.sipush n, 3)) (hp : pc + 3 = pc') (kk : ax_J F k w pc' ls (.int v :: st) σ post) : ax_J F k w pc ls (st) σ post := by
  subst hp
  intro p l e s m args below meth c x H locs lsA C Hp L
  exact lv_sipush C.1 C.2.1 hd hv (kk p l e s m args below meth c x H locs lsA C Hp L)
theorem ax_lconst {n : Fin 2} {v : Int64} (hv : Int64.ofNat (n : Nat) = v) (hd : decode F.1.2.1 pc = .ok (.lconst n, 1)) (hp : pc + 1 = pc') (kk : ax_J F k w pc' ls (.long v :: st) σ post) : ax_J F k w pc ls (st) σ post := by
  subst hp
  intro p l e s m args below meth c x H locs lsA C Hp L
  exact lv_lconst C.1 C.2.1 hd hv (kk p l e s m args below meth c x H locs lsA C Hp L)
theorem ax_ldc {n : Nat} {v : Int32} (hv : Cond.constant F.1.1.cls n v ∈ ax_Big) (hd : decode F.1.2.1 pc = .ok (.ldc n, 2)) (hp : pc + 2 = pc') (kk : ax_J F k w pc' ls (.int v :: st) σ post) : ax_J F k w pc ls (st) σ post := by
  subst hp
  intro p l e s m args below meth c x H locs lsA C Hp L
  exact lv_ldc C.1 C.2.1 C.2.2.2.2.2.1 (C.2.2.2.2.2.2.2.1 _ hv) hd (kk p l e s m args below meth c x H locs lsA C Hp L)
theorem ax_ldcw {n : Nat} {v : Int32} (hv : Cond.constant F.1.1.cls n v ∈ ax_Big) (hd : decode F.1.2.1 pc = .ok (.ldc_w n, 3)) (hp : pc + 3 = pc') (kk : ax_J F k w pc' ls (.int v :: st) σ post) : ax_J F k w pc ls (st) σ post := by
  subst hp
  intro p l e s m args below meth c x H locs lsA C Hp L
  exact lv_ldcw C.1 C.2.1 C.2.2.2.2.2.1 (C.2.2.2.2.2.2.2.1 _ hv) hd (kk p l e s m args below meth c x H locs lsA C Hp L)
theorem ax_ldc2 {n : Nat} {v : Int64} (hv : Cond.constantLong F.1.1.cls n v ∈ ax_Big) (hd : decode F.1.2.1 pc = .ok (.ldc2_w n, 3)) (hp : pc + 3 = pc') (kk : ax_J F k w pc' ls (.long v :: st) σ post) : ax_J F k w pc ls (st) σ post := by
  subst hp
  intro p l e s m args below meth c x H locs lsA C Hp L
  exact lv_ldc2 C.1 C.2.1 C.2.2.2.2.2.1 (C.2.2.2.2.2.2.2.1 _ hv) hd (kk p l e s m args below meth c x H locs lsA C Hp L)
theorem ax_iload_n {n : Fin 4} {y : Int32} (hl : ls[(n : Nat)]? = some (some (.int y))) (hd : decode F.1.2.1 pc = .ok (.iload_n n, 1)) (hp : pc + 1 = pc') (kk : ax_J F k w pc' ls (.int y :: st) σ post) : ax_J F k w pc ls (st) σ post := by
  subst hp
  intro p l e s m args below meth c x H locs lsA C Hp L
  exact lv_iload_n C.1 C.2.1 hd rfl (L.2.2 _ _ hl) (kk p l e s m args below meth c x H locs lsA C Hp L)
theorem ax_iload {n : Nat} {y : Int32} (hl : ls[n]? = some (some (.int y))) (hd : decode F.1.2.1 pc = .ok (.iload n, 2)) (hp : pc + 2 = pc') (kk : ax_J F k w pc' ls (.int y :: st) σ post) : ax_J F k w pc ls (st) σ post := by
  subst hp
  intro p l e s m args below meth c x H locs lsA C Hp L
  exact lv_iload C.1 C.2.1 hd (L.2.2 _ _ hl) (kk p l e s m args below meth c x H locs lsA C Hp L)
theorem ax_lload_n {n : Fin 4} {y : Int64} (hl : ls[(n : Nat)]? = some (some (.long y))) (hd : decode F.1.2.1 pc = .ok (.lload_n n, 1)) (hp : pc + 1 = pc') (kk : ax_J F k w pc' ls (.long y :: st) σ post) : ax_J F k w pc ls (st) σ post := by
  subst hp
  intro p l e s m args below meth c x H locs lsA C Hp L
  exact lv_lload_n C.1 C.2.1 hd rfl (L.2.2 _ _ hl) (kk p l e s m args below meth c x H locs lsA C Hp L)
theorem ax_lload {n : Nat} {y : Int64} (hl : ls[n]? = some (some (.long y))) (hd : decode F.1.2.1 pc = .ok (.lload n, 2)) (hp : pc + 2 = pc') (kk : ax_J F k w pc' ls (.long y :: st) σ post) : ax_J F k w pc ls (st) σ post := by
  subst hp
  intro p l e s m args below meth c x H locs lsA C Hp L
  exact lv_lload C.1 C.2.1 hd (L.2.2 _ _ hl) (kk p l e s m args below meth c x H locs lsA C Hp L)
theorem ax_aload_n {n : Fin 4} {y : Nat} (hl : ls[(n : Nat)]? = some (some (.ref y))) (hd : decode F.1.2.1 pc = .ok (.aload_n n, 1)) (hp : pc + 1 = pc') (kk : ax_J F k w pc' ls (.ref y :: st) σ post) : ax_J F k w pc ls (st) σ post := by
  subst hp
  intro p l e s m args below meth c x H locs lsA C Hp L
  exact lv_aload_n C.1 C.2.1 hd rfl (L.2.2 _ _ hl) (kk p l e s m args below meth c x H locs lsA C Hp L)
theorem ax_aload {n : Nat} {y : Nat} (hl : ls[n]? = some (some (.ref y))) (hd : decode F.1.2.1 pc = .ok (.aload n, 2)) (hp : pc + 2 = pc') (kk : ax_J F k w pc' ls (.ref y :: st) σ post) : ax_J F k w pc ls (st) σ post := by
  subst hp
  intro p l e s m args below meth c x H locs lsA C Hp L
  exact lv_aload C.1 C.2.1 hd (L.2.2 _ _ hl) (kk p l e s m args below meth c x H locs lsA C Hp L)
theorem ax_istore_n {n : Fin 4} {y : Int32} (hs : ax_st1 ls (n : Nat) (.int y) some = some ls') (hm : ls.length ≤ F.1.2.2.1) (hd : decode F.1.2.1 pc = .ok (.istore_n n, 1)) (hp : pc + 1 = pc') (kk : ax_J F k w pc' ls' st σ post) : ax_J F k w pc ls (.int y :: st) σ post := by
  subst hp
  obtain ⟨h1, ls1, e1, h2⟩ := ax_st1_of _ _ _ _ _ hs
  cases e1
  intro p l e s m args below meth c x H locs lsA C Hp L
  exact lv_istore_n (lv' := _) C.1 C.2.1 hd rfl L.has (by omega) rfl (fun lsB hB => kk p l e s m args below meth c x H locs lsB C Hp (ax_Ls.st1 hB h2))
theorem ax_istore {n : Nat} {y : Int32} (hs : ax_st1 ls n (.int y) some = some ls') (hm : ls.length ≤ F.1.2.2.1) (hd : decode F.1.2.1 pc = .ok (.istore n, 2)) (hp : pc + 2 = pc') (kk : ax_J F k w pc' ls' st σ post) : ax_J F k w pc ls (.int y :: st) σ post := by
  subst hp
  obtain ⟨h1, ls1, e1, h2⟩ := ax_st1_of _ _ _ _ _ hs
  cases e1
  intro p l e s m args below meth c x H locs lsA C Hp L
  exact lv_istore (lv' := _) C.1 C.2.1 hd L.has (by omega) rfl (fun lsB hB => kk p l e s m args below meth c x H locs lsB C Hp (ax_Ls.st1 hB h2))
theorem ax_lstore_n {n : Fin 4} {y : Int64} (hs : ax_st2 ls (n : Nat) (.long y) some = some ls') (hm : ls.length ≤ F.1.2.2.1) (hd : decode F.1.2.1 pc = .ok (.lstore_n n, 1)) (hp : pc + 1 = pc') (kk : ax_J F k w pc' ls' st σ post) : ax_J F k w pc ls (.long y :: st) σ post := by
  subst hp
  obtain ⟨h1, ls1, e1, h2⟩ := ax_st2_of _ _ _ _ _ hs
  cases e1
  intro p l e s m args below meth c x H locs lsA C Hp L
  exact lv_lstore_n (lv' := _) C.1 C.2.1 hd rfl L.has (by omega) rfl (fun lsB hB => kk p l e s m args below meth c x H locs lsB C Hp (ax_Ls.st2 hB h2))
theorem ax_lstore {n : Nat} {y : Int64} (hs : ax_st2 ls n (.long y) some = some ls') (hm : ls.length ≤ F.1.2.2.1) (hd : decode F.1.2.1 pc = .ok (.lstore n, 2)) (hp : pc + 2 = pc') (kk : ax_J F k w pc' ls' st σ post) : ax_J F k w pc ls (.long y :: st) σ post := by
  subst hp
  obtain ⟨h1, ls1, e1, h2⟩ := ax_st2_of _ _ _ _ _ hs
  cases e1
  intro p l e s m args below meth c x H locs lsA C Hp L
  exact lv_lstore (lv' := _) C.1 C.2.1 hd L.has (by omega) rfl (fun lsB hB => kk p l e s m args below meth c x H locs lsB C Hp (ax_Ls.st2 hB h2))
theorem ax_astore_n {n : Fin 4} {y : Nat} (hs : ax_st1 ls (n : Nat) (.ref y) some = some ls') (hm : ls.length ≤ F.1.2.2.1) (hd : decode F.1.2.1 pc = .ok (.astore_n n, 1)) (hp : pc + 1 = pc') (kk : ax_J F k w pc' ls' st σ post) : ax_J F k w pc ls (.ref y :: st) σ post := by
  subst hp
  obtain ⟨h1, ls1, e1, h2⟩ := ax_st1_of _ _ _ _ _ hs
  cases e1
  intro p l e s m args below meth c x H locs lsA C Hp L
  exact lv_astore_n (lv' := _) C.1 C.2.1 hd rfl L.has (by omega) rfl (fun lsB hB => kk p l e s m args below meth c x H locs lsB C Hp (ax_Ls.st1 hB h2))
theorem ax_astore {n : Nat} {y : Nat} (hs : ax_st1 ls n (.ref y) some = some ls') (hm : ls.length ≤ F.1.2.2.1) (hd : decode F.1.2.1 pc = .ok (.astore n, 2)) (hp : pc + 2 = pc') (kk : ax_J F k w pc' ls' st σ post) : ax_J F k w pc ls (.ref y :: st) σ post := by
  subst hp
  obtain ⟨h1, ls1, e1, h2⟩ := ax_st1_of _ _ _ _ _ hs
  cases e1
  intro p l e s m args below meth c x H locs lsA C Hp L
  exact lv_astore (lv' := _) C.1 C.2.1 hd L.has (by omega) rfl (fun lsB hB => kk p l e s m args below meth c x H locs lsB C Hp (ax_Ls.st1 hB h2))
theorem ax_iinc {i : Nat} {n : Int} {y v : Int32} (hl : ls[i]? = some (some (.int y))) (hv : y + Int32.ofInt n = v) (hs : ax_st1 ls i (.int v) some = some ls') (hm : ls.length ≤ F.1.2.2.1) (hd : decode F.1.2.1 pc = .ok (.iinc i n, 3)) (hp : pc + 3 = pc') (kk : ax_J F k w pc' ls' st σ post) : ax_J F k w pc ls st σ post := by
  subst hp
  obtain ⟨h1, ls1, e1, h2⟩ := ax_st1_of _ _ _ _ _ hs
  cases e1
  intro p l e s m args below meth c x H locs lsA C Hp L
  obtain ⟨j, hj⟩ := List.getElem?_of_mem (ax_ll_mem (x := x).mpr ⟨.int y, (hl : ls[((i, Value.int y) : Nat × Value).1]? = _), (rfl : ((i, Value.int y) : Nat × Value).2 = ax_cv x (.int y))⟩)
  exact lv_iinc (lv' := _) C.1 C.2.1 hd L.has hj hv (by omega) rfl (fun lsB hB => kk p l e s m args below meth c x H locs lsB C Hp (ax_Ls.st1 (v := .int v) hB h2))
theorem ax_iadd {a b : Int32} (hd : decode F.1.2.1 pc = .ok (.iadd, 1)) (hp : pc + 1 = pc') (kk : ax_J F k w pc' ls (.int (a + b) :: st) σ post) : ax_J F k w pc ls (.int b :: .int a :: st) σ post := by
  subst hp
  intro p l e s m args below meth c x H locs lsA C Hp L
  exact lv_iadd C.1 C.2.1 hd (kk p l e s m args below meth c x H locs lsA C Hp L)
theorem ax_isub {a b : Int32} (hd : decode F.1.2.1 pc = .ok (.isub, 1)) (hp : pc + 1 = pc') (kk : ax_J F k w pc' ls (.int (a - b) :: st) σ post) : ax_J F k w pc ls (.int b :: .int a :: st) σ post := by
  subst hp
  intro p l e s m args below meth c x H locs lsA C Hp L
  exact lv_isub C.1 C.2.1 hd (kk p l e s m args below meth c x H locs lsA C Hp L)
theorem ax_imul {a b : Int32} (hd : decode F.1.2.1 pc = .ok (.imul, 1)) (hp : pc + 1 = pc') (kk : ax_J F k w pc' ls (.int (a * b) :: st) σ post) : ax_J F k w pc ls (.int b :: .int a :: st) σ post := by
  subst hp
  intro p l e s m args below meth c x H locs lsA C Hp L
  exact lv_imul C.1 C.2.1 hd (kk p l e s m args below meth c x H locs lsA C Hp L)
theorem ax_iand {a b : Int32} (hd : decode F.1.2.1 pc = .ok (.iand, 1)) (hp : pc + 1 = pc') (kk : ax_J F k w pc' ls (.int (a &&& b) :: st) σ post) : ax_J F k w pc ls (.int b :: .int a :: st) σ post := by
  subst hp
  intro p l e s m args below meth c x H locs lsA C Hp L
  exact lv_iand C.1 C.2.1 hd (kk p l e s m args below meth c x H locs lsA C Hp L)
theorem ax_ior {a b : Int32} (hd : decode F.1.2.1 pc = .ok (.ior, 1)) (hp : pc + 1 = pc') (kk : ax_J F k w pc' ls (.int (a ||| b) :: st) σ post) : ax_J F k w pc ls (.int b :: .int a :: st) σ post := by
  subst hp
  intro p l e s m args below meth c x H locs lsA C Hp L
  exact lv_ior C.1 C.2.1 hd (kk p l e s m args below meth c x H locs lsA C Hp L)
theorem ax_ishl {a b : Int32} (hd : decode F.1.2.1 pc = .ok (.ishl, 1)) (hp : pc + 1 = pc') (kk : ax_J F k w pc' ls (.int (a <<< (b &&& 31)) :: st) σ post) : ax_J F k w pc ls (.int b :: .int a :: st) σ post := by
  subst hp
  intro p l e s m args below meth c x H locs lsA C Hp L
  exact lv_ishl C.1 C.2.1 hd (kk p l e s m args below meth c x H locs lsA C Hp L)
theorem ax_ishr {a b : Int32} (hd : decode F.1.2.1 pc = .ok (.ishr, 1)) (hp : pc + 1 = pc') (kk : ax_J F k w pc' ls (.int (a >>> (b &&& 31)) :: st) σ post) : ax_J F k w pc ls (.int b :: .int a :: st) σ post := by
  subst hp
  intro p l e s m args below meth c x H locs lsA C Hp L
  exact lv_ishr C.1 C.2.1 hd (kk p l e s m args below meth c x H locs lsA C Hp L)
theorem ax_iushr {a b v : Int32} (hv : (a.toUInt32 >>> (b.toUInt32 &&& Int32.toUInt32 31)).toInt32 = v) (hd : decode F.1.2.1 pc = .ok (.iushr, 1)) (hp : pc + 1 = pc') (kk : ax_J F k w pc' ls (.int v :: st) σ post) : ax_J F k w pc ls (.int b :: .int a :: st) σ post := by
  subst hp
  intro p l e s m args below meth c x H locs lsA C Hp L
  exact lv_iushr C.1 C.2.1 hd hv (kk p l e s m args below meth c x H locs lsA C Hp L)
theorem ax_idiv {a b : Int32} (hn : ¬ b = 0) (hd : decode F.1.2.1 pc = .ok (.idiv, 1)) (hp : pc + 1 = pc') (kk : ax_J F k w pc' ls (.int (a / b) :: st) σ post) : ax_J F k w pc ls (.int b :: .int a :: st) σ post := by
  subst hp
  intro p l e s m args below meth c x H locs lsA C Hp L
  exact lv_idiv C.1 C.2.1 hd hn (kk p l e s m args below meth c x H locs lsA C Hp L)
theorem ax_irem {a b : Int32} (hn : ¬ b = 0) (hd : decode F.1.2.1 pc = .ok (.irem, 1)) (hp : pc + 1 = pc') (kk : ax_J F k w pc' ls (.int (a - a / b * b) :: st) σ post) : ax_J F k w pc ls (.int b :: .int a :: st) σ post := by
  subst hp
  intro p l e s m args below meth c x H locs lsA C Hp L
  exact lv_irem C.1 C.2.1 hd hn (kk p l e s m args below meth c x H locs lsA C Hp L)
theorem ax_ineg {a : Int32} (hd : decode F.1.2.1 pc = .ok (.ineg, 1)) (hp : pc + 1 = pc') (kk : ax_J F k w pc' ls (.int (-a) :: st) σ post) : ax_J F k w pc ls (.int a :: st) σ post := by
  subst hp
  intro p l e s m args below meth c x H locs lsA C Hp L
  exact lv_ineg C.1 C.2.1 hd (kk p l e s m args below meth c x H locs lsA C Hp L)
theorem ax_ladd {a b : Int64} (hd : decode F.1.2.1 pc = .ok (.ladd, 1)) (hp : pc + 1 = pc') (kk : ax_J F k w pc' ls (.long (a + b) :: st) σ post) : ax_J F k w pc ls (.long b :: .long a :: st) σ post := by
  subst hp
  intro p l e s m args below meth c x H locs lsA C Hp L
  exact lv_ladd C.1 C.2.1 hd (kk p l e s m args below meth c x H locs lsA C Hp L)
theorem ax_lsub {a b : Int64} (hd : decode F.1.2.1 pc = .ok (.lsub, 1)) (hp : pc + 1 = pc') (kk : ax_J F k w pc' ls (.long (a - b) :: st) σ post) : ax_J F k w pc ls (.long b :: .long a :: st) σ post := by
  subst hp
  intro p l e s m args below meth c x H locs lsA C Hp L
  exact lv_lsub C.1 C.2.1 hd (kk p l e s m args below meth c x H locs lsA C Hp L)
theorem ax_lmul {a b : Int64} (hd : decode F.1.2.1 pc = .ok (.lmul, 1)) (hp : pc + 1 = pc') (kk : ax_J F k w pc' ls (.long (a * b) :: st) σ post) : ax_J F k w pc ls (.long b :: .long a :: st) σ post := by
  subst hp
  intro p l e s m args below meth c x H locs lsA C Hp L
  exact lv_lmul C.1 C.2.1 hd (kk p l e s m args below meth c x H locs lsA C Hp L)
theorem ax_ldiv {a b : Int64} (hn : ¬ b = 0) (hd : decode F.1.2.1 pc = .ok (.ldiv, 1)) (hp : pc + 1 = pc') (kk : ax_J F k w pc' ls (.long (a / b) :: st) σ post) : ax_J F k w pc ls (.long b :: .long a :: st) σ post := by
  subst hp
  intro p l e s m args below meth c x H locs lsA C Hp L
  exact lv_ldiv C.1 C.2.1 hd hn (kk p l e s m args below meth c x H locs lsA C Hp L)
theorem ax_lrem {a b : Int64} (hn : ¬ b = 0) (hd : decode F.1.2.1 pc = .ok (.lrem, 1)) (hp : pc + 1 = pc') (kk : ax_J F k w pc' ls (.long (a - a / b * b) :: st) σ post) : ax_J F k w pc ls (.long b :: .long a :: st) σ post := by
  subst hp
  intro p l e s m args below meth c x H locs lsA C Hp L
  exact lv_lrem C.1 C.2.1 hd hn (kk p l e s m args below meth c x H locs lsA C Hp L)
theorem ax_lcmp {a b : Int64} (hd : decode F.1.2.1 pc = .ok (.lcmp, 1)) (hp : pc + 1 = pc') (kk : ax_J F k w pc' ls (.int (lg_cmp a b) :: st) σ post) : ax_J F k w pc ls (.long b :: .long a :: st) σ post := by
  subst hp
  intro p l e s m args below meth c x H locs lsA C Hp L
  exact W.lcmp C.1 C.2.1 hd (kk p l e s m args below meth c x H locs lsA C Hp L)
theorem ax_i2l {a : Int32} (hd : decode F.1.2.1 pc = .ok (.i2l, 1)) (hp : pc + 1 = pc') (kk : ax_J F k w pc' ls (.long a.toInt64 :: st) σ post) : ax_J F k w pc ls (.int a :: st) σ post := by
  subst hp
  intro p l e s m args below meth c x H locs lsA C Hp L
  exact lv_i2l C.1 C.2.1 hd rfl (kk p l e s m args below meth c x H locs lsA C Hp L)
theorem ax_l2i {a : Int64} (hd : decode F.1.2.1 pc = .ok (.l2i, 1)) (hp : pc + 1 = pc') (kk : ax_J F k w pc' ls (.int a.toInt32 :: st) σ post) : ax_J F k w pc ls (.long a :: st) σ post := by
  subst hp
  intro p l e s m args below meth c x H locs lsA C Hp L
  exact lv_l2i C.1 C.2.1 hd rfl (kk p l e s m args below meth c x H locs lsA C Hp L)
theorem ax_i2b {a : Int32} (hd : decode F.1.2.1 pc = .ok (.i2b, 1)) (hp : pc + 1 = pc') (kk : ax_J F k w pc' ls (.int a.toInt8.toInt32 :: st) σ post) : ax_J F k w pc ls (.int a :: st) σ post := by
  subst hp
  intro p l e s m args below meth c x H locs lsA C Hp L
  exact lv_i2b C.1 C.2.1 hd rfl (kk p l e s m args below meth c x H locs lsA C Hp L)
theorem ax_dup {v : Value} (hc : v.category = 1) (hd : decode F.1.2.1 pc = .ok (.dup, 1)) (hp : pc + 1 = pc') (kk : ax_J F k w pc' ls (v :: v :: st) σ post) : ax_J F k w pc ls (v :: st) σ post := by
  subst hp
  intro p l e s m args below meth c x H locs lsA C Hp L
  exact lv_dup C.1 C.2.1 hd (by rw [ax_cv_cat]; exact hc) (kk p l e s m args below meth c x H locs lsA C Hp L)
theorem ax_pop {v : Value} (hc : v.category = 1) (hd : decode F.1.2.1 pc = .ok (.pop, 1)) (hp : pc + 1 = pc') (kk : ax_J F k w pc' ls (st) σ post) : ax_J F k w pc ls (v :: st) σ post := by
  subst hp
  intro p l e s m args below meth c x H locs lsA C Hp L
  exact lv_pop C.1 C.2.1 hd (by rw [ax_cv_cat]; exact hc) (kk p l e s m args below meth c x H locs lsA C Hp L)
theorem ax_dup2 {v u : Value} (hc : v.category = 1) (hc2 : u.category = 1) (hd : decode F.1.2.1 pc = .ok (.dup2, 1)) (hp : pc + 1 = pc') (kk : ax_J F k w pc' ls (v :: u :: v :: u :: st) σ post) : ax_J F k w pc ls (v :: u :: st) σ post := by
  subst hp
  intro p l e s m args below meth c x H locs lsA C Hp L
  exact lv_dup2_11 C.1 C.2.1 hd (by rw [ax_cv_cat]; exact hc) (by rw [ax_cv_cat]; exact hc2) (kk p l e s m args below meth c x H locs lsA C Hp L)
theorem ax_if_eq {a : Int32} {off : Int} {tgt : Nat} (hd : decode F.1.2.1 pc = .ok (.ifCond .eq off, 3)) (ht : (pc : Int) + off = (tgt : Int)) (hp : pc + 3 = pc') (kt : a = 0 → ax_J F k w tgt ls st σ post) (kf : ¬ a = 0 → ax_J F k w pc' ls st σ post) : ax_J F k w pc ls (.int a :: st) σ post := by
  subst hp
  intro p l e s m args below meth c x H locs lsA C Hp L
  exact lv_if_eq C.1 C.2.1 hd ht (fun h => kt h p l e s m args below meth c x H locs lsA C Hp L) (fun h => kf h p l e s m args below meth c x H locs lsA C Hp L)
theorem ax_icmp_eq {a b : Int32} {off : Int} {tgt : Nat} (hd : decode F.1.2.1 pc = .ok (.if_icmp .eq off, 3)) (ht : (pc : Int) + off = (tgt : Int)) (hp : pc + 3 = pc') (kt : a = b → ax_J F k w tgt ls st σ post) (kf : ¬ a = b → ax_J F k w pc' ls st σ post) : ax_J F k w pc ls (.int b :: .int a :: st) σ post := by
  subst hp
  intro p l e s m args below meth c x H locs lsA C Hp L
  exact lv_icmp_eq C.1 C.2.1 hd ht (fun h => kt h p l e s m args below meth c x H locs lsA C Hp L) (fun h => kf h p l e s m args below meth c x H locs lsA C Hp L)
theorem ax_if_ne {a : Int32} {off : Int} {tgt : Nat} (hd : decode F.1.2.1 pc = .ok (.ifCond .ne off, 3)) (ht : (pc : Int) + off = (tgt : Int)) (hp : pc + 3 = pc') (kt : ¬ a = 0 → ax_J F k w tgt ls st σ post) (kf : a = 0 → ax_J F k w pc' ls st σ post) : ax_J F k w pc ls (.int a :: st) σ post := by
  subst hp
  intro p l e s m args below meth c x H locs lsA C Hp L
  exact lv_if_ne C.1 C.2.1 hd ht (fun h => kt h p l e s m args below meth c x H locs lsA C Hp L) (fun h => kf h p l e s m args below meth c x H locs lsA C Hp L)
theorem ax_icmp_ne {a b : Int32} {off : Int} {tgt : Nat} (hd : decode F.1.2.1 pc = .ok (.if_icmp .ne off, 3)) (ht : (pc : Int) + off = (tgt : Int)) (hp : pc + 3 = pc') (kt : ¬ a = b → ax_J F k w tgt ls st σ post) (kf : a = b → ax_J F k w pc' ls st σ post) : ax_J F k w pc ls (.int b :: .int a :: st) σ post := by
  subst hp
  intro p l e s m args below meth c x H locs lsA C Hp L
  exact lv_icmp_ne C.1 C.2.1 hd ht (fun h => kt h p l e s m args below meth c x H locs lsA C Hp L) (fun h => kf h p l e s m args below meth c x H locs lsA C Hp L)
theorem ax_if_lt {a : Int32} {off : Int} {tgt : Nat} (hd : decode F.1.2.1 pc = .ok (.ifCond .lt off, 3)) (ht : (pc : Int) + off = (tgt : Int)) (hp : pc + 3 = pc') (kt : a < 0 → ax_J F k w tgt ls st σ post) (kf : ¬ a < 0 → ax_J F k w pc' ls st σ post) : ax_J F k w pc ls (.int a :: st) σ post := by
  subst hp
  intro p l e s m args below meth c x H locs lsA C Hp L
  exact lv_if_lt C.1 C.2.1 hd ht (fun h => kt h p l e s m args below meth c x H locs lsA C Hp L) (fun h => kf h p l e s m args below meth c x H locs lsA C Hp L)
theorem ax_icmp_lt {a b : Int32} {off : Int} {tgt : Nat} (hd : decode F.1.2.1 pc = .ok (.if_icmp .lt off, 3)) (ht : (pc : Int) + off = (tgt : Int)) (hp : pc + 3 = pc') (kt : a < b → ax_J F k w tgt ls st σ post) (kf : ¬ a < b → ax_J F k w pc' ls st σ post) : ax_J F k w pc ls (.int b :: .int a :: st) σ post := by
  subst hp
  intro p l e s m args below meth c x H locs lsA C Hp L
  exact lv_icmp_lt C.1 C.2.1 hd ht (fun h => kt h p l e s m args below meth c x H locs lsA C Hp L) (fun h => kf h p l e s m args below meth c x H locs lsA C Hp L)
theorem ax_if_ge {a : Int32} {off : Int} {tgt : Nat} (hd : decode F.1.2.1 pc = .ok (.ifCond .ge off, 3)) (ht : (pc : Int) + off = (tgt : Int)) (hp : pc + 3 = pc') (kt : 0 ≤ a → ax_J F k w tgt ls st σ post) (kf : ¬ 0 ≤ a → ax_J F k w pc' ls st σ post) : ax_J F k w pc ls (.int a :: st) σ post := by
  subst hp
  intro p l e s m args below meth c x H locs lsA C Hp L
  exact lv_if_ge C.1 C.2.1 hd ht (fun h => kt h p l e s m args below meth c x H locs lsA C Hp L) (fun h => kf h p l e s m args below meth c x H locs lsA C Hp L)
theorem ax_icmp_ge {a b : Int32} {off : Int} {tgt : Nat} (hd : decode F.1.2.1 pc = .ok (.if_icmp .ge off, 3)) (ht : (pc : Int) + off = (tgt : Int)) (hp : pc + 3 = pc') (kt : b ≤ a → ax_J F k w tgt ls st σ post) (kf : ¬ b ≤ a → ax_J F k w pc' ls st σ post) : ax_J F k w pc ls (.int b :: .int a :: st) σ post := by
  subst hp
  intro p l e s m args below meth c x H locs lsA C Hp L
  exact lv_icmp_ge C.1 C.2.1 hd ht (fun h => kt h p l e s m args below meth c x H locs lsA C Hp L) (fun h => kf h p l e s m args below meth c x H locs lsA C Hp L)
theorem ax_if_gt {a : Int32} {off : Int} {tgt : Nat} (hd : decode F.1.2.1 pc = .ok (.ifCond .gt off, 3)) (ht : (pc : Int) + off = (tgt : Int)) (hp : pc + 3 = pc') (kt : 0 < a → ax_J F k w tgt ls st σ post) (kf : ¬ 0 < a → ax_J F k w pc' ls st σ post) : ax_J F k w pc ls (.int a :: st) σ post := by
  subst hp
  intro p l e s m args below meth c x H locs lsA C Hp L
  exact lv_if_gt C.1 C.2.1 hd ht (fun h => kt h p l e s m args below meth c x H locs lsA C Hp L) (fun h => kf h p l e s m args below meth c x H locs lsA C Hp L)
theorem ax_icmp_gt {a b : Int32} {off : Int} {tgt : Nat} (hd : decode F.1.2.1 pc = .ok (.if_icmp .gt off, 3)) (ht : (pc : Int) + off = (tgt : Int)) (hp : pc + 3 = pc') (kt : b < a → ax_J F k w tgt ls st σ post) (kf : ¬ b < a → ax_J F k w pc' ls st σ post) : ax_J F k w pc ls (.int b :: .int a :: st) σ post := by
  subst hp
  intro p l e s m args below meth c x H locs lsA C Hp L
  exact lv_icmp_gt C.1 C.2.1 hd ht (fun h => kt h p l e s m args below meth c x H locs lsA C Hp L) (fun h => kf h p l e s m args below meth c x H locs lsA C Hp L)
theorem ax_if_le {a : Int32} {off : Int} {tgt : Nat} (hd : decode F.1.2.1 pc = .ok (.ifCond .le off, 3)) (ht : (pc : Int) + off = (tgt : Int)) (hp : pc + 3 = pc') (kt : a ≤ 0 → ax_J F k w tgt ls st σ post) (kf : ¬ a ≤ 0 → ax_J F k w pc' ls st σ post) : ax_J F k w pc ls (.int a :: st) σ post := by
  subst hp
  intro p l e s m args below meth c x H locs lsA C Hp L
  exact lv_if_le C.1 C.2.1 hd ht (fun h => kt h p l e s m args below meth c x H locs lsA C Hp L) (fun h => kf h p l e s m args below meth c x H locs lsA C Hp L)
theorem ax_icmp_le {a b : Int32} {off : Int} {tgt : Nat} (hd : decode F.1.2.1 pc = .ok (.if_icmp .le off, 3)) (ht : (pc : Int) + off = (tgt : Int)) (hp : pc + 3 = pc') (kt : a ≤ b → ax_J F k w tgt ls st σ post) (kf : ¬ a ≤ b → ax_J F k w pc' ls st σ post) : ax_J F k w pc ls (.int b :: .int a :: st) σ post := by
  subst hp
  intro p l e s m args below meth c x H locs lsA C Hp L
  exact lv_icmp_le C.1 C.2.1 hd ht (fun h => kt h p l e s m args below meth c x H locs lsA C Hp L) (fun h => kf h p l e s m args below meth c x H locs lsA C Hp L)
theorem ax_goto {off : Int} {tgt : Nat} (hd : decode F.1.2.1 pc = .ok (.goto off, 3)) (ht : (pc : Int) + off = (tgt : Int)) (kk : ax_J F k w tgt ls st σ post) : ax_J F k w pc ls st σ post := by
  intro p l e s m args below meth c x H locs lsA C Hp L
  exact lv_goto C.1 C.2.1 hd ht (kk p l e s m args below meth c x H locs lsA C Hp L)
theorem ax_tabIn {dflt lo hi : Int} {offs : Array Int} {len : Nat} {a : Int32} {off : Int} {tgt : Nat} (hd : decode F.1.2.1 pc = .ok (.tableswitch dflt lo hi offs, len)) (h1 : ¬ a.toInt < lo) (h2 : ¬ hi < a.toInt) (ho : offs[(a.toInt - lo).toNat]? = some off) (ht : (pc : Int) + off = (tgt : Int)) (kk : ax_J F k w tgt ls st σ post) : ax_J F k w pc ls (.int a :: st) σ post := by
  intro p l e s m args below meth c x H locs lsA C Hp L
  exact lv_tableIn C.1 C.2.1 hd h1 h2 ho ht (kk p l e s m args below meth c x H locs lsA C Hp L)
theorem ax_tabOut {dflt lo hi : Int} {offs : Array Int} {len : Nat} {a : Int32} {tgt : Nat} (hd : decode F.1.2.1 pc = .ok (.tableswitch dflt lo hi offs, len)) (h : a.toInt < lo ∨ hi < a.toInt) (ht : (pc : Int) + dflt = (tgt : Int)) (kk : ax_J F k w tgt ls st σ post) : ax_J F k w pc ls (.int a :: st) σ post := by
  intro p l e s m args below meth c x H locs lsA C Hp L
  exact lv_tableOut C.1 C.2.1 hd h ht (kk p l e s m args below meth c x H locs lsA C Hp L)
theorem ax_look {dflt : Int} {ps : Array (Int × Int)} {len : Nat} {a : Int32} {off : Int} {tgt : Nat} (hd : decode F.1.2.1 pc = .ok (.lookupswitch dflt ps, len)) (hs : (ps.toList.zip (ps.toList.drop 1)).all (fun (a, next) => a.1 < next.1) = true) (ho : Op.lookupswitch.offset ps.toList dflt a.toInt = off) (ht : (pc : Int) + off = (tgt : Int)) (kk : ax_J F k w tgt ls st σ post) : ax_J F k w pc ls (.int a :: st) σ post := by
  intro p l e s m args below meth c x H locs lsA C Hp L
  exact lv_lookup C.1 C.2.1 hd hs ho ht (kk p l e s m args below meth c x H locs lsA C Hp L)
theorem ax_iret {v : Int32} (hd : decode F.1.2.1 pc = .ok (.ireturn, 1)) (hr : F.1.2.2.2 = some .int) (hk : k ≤ F.2.2.1) (hw : w ≤ F.2.2.2) (hp : post (some (.int v)) σ) : ax_J F k w pc ls [.int v] σ post := by
  intro p l e s m args below meth c x H locs lsA C Hp L
  refine W.widen hk hw ?_
  exact W.iret (v := v) C.1 C.2.1 (C.2.2.1.trans hr) (fun t ht hW => ⟨⟨some (.int v), σ, rfl, hp, ax_In.of Hp C.2.2.2.2.2.2.2.2 ht hW⟩, Hp.2.2.2.1.F ht⟩) Hp.2.2.2.1.2.2 hd (hlocks := C.2.2.2.1)
theorem ax_zret {v : Int32} {ty : FieldType} (hd : decode F.1.2.1 pc = .ok (.ireturn, 1)) (hr : F.1.2.2.2 = some ty) (hn : narrow ty (.int v) = .int v) (hk : k ≤ F.2.2.1) (hw : w ≤ F.2.2.2) (hp : post (some (.int v)) σ) : ax_J F k w pc ls [.int v] σ post := by
  intro p l e s m args below meth c x H locs lsA C Hp L
  refine W.widen hk hw ?_
  exact W.zret (v := v) C.1 C.2.1 (C.2.2.1.trans hr) hn (fun t ht hW => ⟨⟨some (.int v), σ, rfl, hp, ax_In.of Hp C.2.2.2.2.2.2.2.2 ht hW⟩, Hp.2.2.2.1.F ht⟩) Hp.2.2.2.1.2.2 hd (hlocks := C.2.2.2.1)
theorem ax_vret (hd : decode F.1.2.1 pc = .ok (.return_, 1)) (hr : F.1.2.2.2 = none) (hk : k ≤ F.2.2.1) (hw : w ≤ F.2.2.2) (hp : post none σ) : ax_J F k w pc ls [] σ post := by
  intro p l e s m args below meth c x H locs lsA C Hp L
  refine W.widen hk hw ?_
  exact W.vret C.1 C.2.1 (C.2.2.1.trans hr) (fun t ht hW => ⟨⟨none, σ, rfl, hp, ax_In.of Hp C.2.2.2.2.2.2.2.2 ht hW⟩, Hp.2.2.2.1.F ht⟩) Hp.2.2.2.1.2.2 hd (hlocks := C.2.2.2.1)
theorem ax_aret {a : Nat} {n : String} (hd : decode F.1.2.1 pc = .ok (.areturn, 1)) (hr : F.1.2.2.2 = some (.object n)) (hk : k ≤ F.2.2.1) (hw : w ≤ F.2.2.2) (hp : post (some (.ref a)) σ) : ax_J F k w pc ls [.ref a] σ post := by
  intro p l e s m args below meth c x H locs lsA C Hp L
  refine W.widen hk hw ?_
  exact W.aret (v := .ref (x.1 + a)) C.1 C.2.1 (C.2.2.1.trans hr) (Or.inl ⟨n, rfl⟩) (Or.inr ⟨_, rfl⟩) (fun t ht hW => ⟨⟨some (.ref a), σ, rfl, hp, ax_In.of Hp C.2.2.2.2.2.2.2.2 ht hW⟩, Hp.2.2.2.1.F ht⟩) Hp.2.2.2.1.2.2 hd (hlocks := C.2.2.2.1)
theorem ax_cls {ci : Nat} {C : String} {T : u_T} {N : Nat} (h : vwCl[ci]? = some (C, T, N)) : (∀ w ∈ u_ws C T N, w ∈ ax_Big) ∧ (∃ ty0 : Nat → FieldType, ∀ k, k < N → parseFieldDescriptor (T k).2.2.1 = some (ty0 k)) ∧ (∀ a, a < N → ∀ b, b < N → a ≠ b → (T a).2.1 ≠ (T b).2.1) := by
  match ci, h with
  | 0, h => cases h; exact ⟨inlX0, ⟨tyX0, tyX0_ok⟩, nmX0⟩
  | 1, h => cases h; exact ⟨inlX1, ⟨tyX1, tyX1_ok⟩, nmX1⟩
  | 2, h => cases h; exact ⟨inlX2, ⟨tyX2, tyX2_ok⟩, nmX2⟩
  | 3, h => cases h; exact ⟨inlX3, ⟨tyX3, tyX3_ok⟩, nmX3⟩
  | 4, h => cases h; exact ⟨inlX4, ⟨tyX4, tyX4_ok⟩, nmX4⟩
  | 5, h => cases h; exact ⟨inlX5, ⟨tyX5, tyX5_ok⟩, nmX5⟩
  | 6, h => cases h; exact ⟨inlX6, ⟨tyX6, tyX6_ok⟩, nmX6⟩
  | 7, h => cases h; exact ⟨inlX7, ⟨tyX7, tyX7_ok⟩, nmX7⟩
  | 8, h => cases h; exact ⟨inlX8, ⟨tyX8, tyX8_ok⟩, nmX8⟩
  | n + 9, h => simp [vwCl] at h
/-- a field's link: class number ci, field k -/
def ax_FL (own : String) (idx ci k : Nat) : Prop := ∃ (C : String) (T : u_T) (N : Nat), vwCl[ci]? = some (C, T, N) ∧ k < N ∧ (Cond.fieldLink own idx (T k).1 (T k).2.1 (T k).2.2.1 ∈ ax_Big ∨ ∃ host : String, (own, idx, (T k).1, (T k).2.1, (T k).2.2.1, host) ∈ ax_NF)
def ax_FP (own : String) (idx ci k : Nat) (ty : FieldType) : Prop := ∃ (C : String) (T : u_T) (N : Nat), vwCl[ci]? = some (C, T, N) ∧ k < N ∧ (Cond.fieldLink own idx (T k).1 (T k).2.1 (T k).2.2.1 ∈ ax_Big ∨ ∃ host : String, (own, idx, (T k).1, (T k).2.1, (T k).2.2.1, host) ∈ ax_NF) ∧ (T k).2.2.2 = false ∧ parseFieldDescriptor (T k).2.2.1 = some ty
def ax_FF (own : String) (idx ci k : Nat) (ty : FieldType) : Prop := ∃ (C : String) (T : u_T) (N : Nat), vwCl[ci]? = some (C, T, N) ∧ k < N ∧ Cond.fieldLink own idx (T k).1 (T k).2.1 (T k).2.2.1 ∈ ax_Big ∧ (T k).2.2.2 = true ∧ (T k).1 = own ∧ parseFieldDescriptor (T k).2.2.1 = some ty
theorem ax_getf {a ci i idx : Nat} {fs : List Value} {v : Value} (hl : ax_FL F.1.1.cls idx ci i) (hc : σ.1 a = some (.inr (ci, fs))) (hv : fs[i]? = some v) (hd : decode F.1.2.1 pc = .ok (.getfield idx, 3)) (hp : pc + 3 = pc') (kk : ax_J F k w pc' ls (v :: st) σ post) : ax_J F k w pc ls (.ref a :: st) σ post := by
  subst hp
  obtain ⟨C', T, N, h1, h2, h3⟩ := hl
  intro p l e s m args below meth c x H locs lsA C Hp L
  have hg := ax_W_get (x := x) Hp.2.2.1 hc
  have hv' : (fs.map (ax_cv x))[i]? = some (ax_cv x v) := by rw [List.getElem?_map, hv]; rfl
  rcases h3 with h3 | ⟨host, h3⟩
  · exact va_get C.1 C.2.1 C.2.2.2.2.2.2.2.1 (ax_cls h1).1 C.2.2.2.2.2.1 C.2.2.2.2.2.2.2.2.1 Hp.2.1 a hg h1 i h2 (C.2.2.2.2.2.2.2.1 _ h3) (fun _ h9 => h9) hv' hd (kk p l e s m args below meth c x H locs lsA C Hp L)
  · exact va_getN C.1 C.2.1 C.2.2.2.2.2.2.2.1 (ax_cls h1).1 C.2.2.2.2.2.1 C.2.2.2.2.2.2.2.2.1 Hp.2.1 a hg h1 i h2 (va_Nw.use rfl (C.2.2.2.2.2.2.2.2.2.1 _ h3)) (fun _ h9 => h9) hv' hd (kk p l e s m args below meth c x H locs lsA C Hp L)

theorem ax_Hp.up {x : ax_X} {s : State} {H H1 : Heap} {locs : List Loc} {a j : Nat} {c0 c : ax_C} (h : ax_Hp x σ s H locs) (hc : σ.1 a = some c0) (hz : H1.size = H.size) (ho : ∀ q : Nat, q ≠ x.1 + a → H1[q]? = H[q]?) (he : va_at x.2.2.1 vwCl (x.1 + a, ax_cE x c) H1) : ax_Hp x (ax_up σ.1 a c, σ.2) s H1 (locs ++ [⟨x.1 + a, j⟩]) := by
  refine ⟨hz.trans h.1, ?_, ax_up_some h.2.2.1 hc, h.2.2.2.1.put hz ho (Nat.le_add_right _ _), h.2.2.2.2⟩
  rw [← ax_W_set]
  exact h.2.1.set ax_W_D (ax_W_get h.2.2.1 hc) he ho
theorem ax_putf {a ci i idx : Nat} {fs fs' : List Value} {v : Value} {ty : FieldType} (hl : ax_FP F.1.1.cls idx ci i ty) (hc : σ.1 a = some (.inr (ci, fs))) (hs : ax_set fs i v some = some fs') (hn : ∀ x : ax_X, narrow ty (ax_cv x v) = ax_cv x v ∧ fits ty (ax_cv x v) = true) (hd : decode F.1.2.1 pc = .ok (.putfield idx, 3)) (hp : pc + 3 = pc') (kk : ax_J F k w pc' ls st (ax_up σ.1 a (.inr (ci, fs')), σ.2) post) : ax_J F k w pc ls (v :: .ref a :: st) σ post := by
  subst hp
  obtain ⟨C', T, N, h1, h2, h3, hfin, hpd⟩ := hl
  obtain ⟨hlen, e0⟩ := ax_set_of _ _ _ _ _ hs
  cases e0
  intro p l e s m args below meth c x H locs lsA C Hp L
  have hg := ax_W_get (x := x) Hp.2.2.1 hc
  obtain ⟨hin, ⟨ty0, hty⟩, hnm⟩ := ax_cls h1
  have hts := C.2.2.2.2.2.2.2.1
  have hK := C.2.2.2.2.2.2.2.2.1
  have hap := va_apart (own := F.1.1.cls) hts hin ty0 hty hnm hK h1
  obtain ⟨r, h1', cell, q1, q2, q3, q4⟩ := Hp.2.1 a _ hg
  have hr : r = (C', T, N) := Option.some.inj (h1'.symm.trans h1)
  subst hr
  obtain ⟨hS, hfc, kC, hkC, hkind⟩ := hK.1 ci _ h1
  obtain ⟨cf, kf, fi, f, hi, hsl⟩ := hS i h2
  have hlay := hts _ (hin _ (u_in_lay h2))
  unfold u_lay at hlay
  rw [if_neg (by rw [hfin]; decide)] at hlay
  have hst := (u_facts hfc hkC (u_lays hts hin h2) hi).1
  have h6 := u_store hfc hkC hkind hlay hi hpd (hn x).1 (hn x).2
  have fin : ∀ H' : Heap, H'[x.1 + a]? = some (cell.setSlot f.slot (ax_cv x v)) → H'.size = H.size → (∀ q, q ≠ x.1 + a → H'[q]? = H[q]?) → ax_Hp x (ax_up σ.1 a (.inr (ci, fs.set i v)), σ.2) s H' (locs ++ [⟨x.1 + a, f.slot⟩]) := by
    intro H' e1 e2 e3
    refine Hp.up hc e2 e3 ⟨_, h1, ?_⟩
    rw [hsl] at e1
    refine t_OB.to (V := updV (vp_V (fs.map (ax_cv x))) i (ax_cv x v)) ⟨_, e1, q2, q3, t_set q4 hap h2 _⟩ (fun j _ => ?_)
    show _ = vp_V ((fs.set i v).map (ax_cv x)) j
    rw [List.map_set]
    exact vp_updV_set (by rw [List.length_map]; exact hlen) _ j
  rcases h3 with h3 | ⟨host, h3⟩
  · refine W.putK C.1 C.2.1 (f := f) ⟨C.2.2.2.2.2.1, hts _ h3, ⟨_, _, _, hi⟩, hst⟩ (by rw [q2]; exact h6) q1 q3 (by rw [hsl]; exact k2_hasslot (q4 i h2)) rfl rfl hd fun H' e1 e2 e3 => ?_
    exact kk p l e s m args below meth c x H' _ lsA C (fin H' e1 e2 e3) L
  · refine va_WputK C.1 C.2.1 (f := f) C.2.2.2.2.2.1 (va_Nw.use rfl (C.2.2.2.2.2.2.2.2.2.1 _ h3)) hi hst (by rw [q2]; exact h6) q1 q3 (by rw [hsl]; exact k2_hasslot (q4 i h2)) rfl rfl hd fun H' e1 e2 e3 => ?_
    exact kk p l e s m args below meth c x H' _ lsA C (fin H' e1 e2 e3) L
theorem ax_putF {a ci i idx : Nat} {fs fs' : List Value} {v : Value} {ty : FieldType} (hl : ax_FF F.1.1.cls idx ci i ty) (hnm0 : F.1.1.name = "<init>") (hc : σ.1 a = some (.inr (ci, fs))) (hs : ax_set fs i v some = some fs') (hn : ∀ x : ax_X, narrow ty (ax_cv x v) = ax_cv x v ∧ fits ty (ax_cv x v) = true) (hd : decode F.1.2.1 pc = .ok (.putfield idx, 3)) (hp : pc + 3 = pc') (kk : ax_J F k w pc' ls st (ax_up σ.1 a (.inr (ci, fs')), σ.2) post) : ax_J F k w pc ls (v :: .ref a :: st) σ post := by
  subst hp
  obtain ⟨C', T, N, h1, h2, h3, hfin, hdecl, hpd⟩ := hl
  obtain ⟨hlen, e0⟩ := ax_set_of _ _ _ _ _ hs
  cases e0
  intro p l e s m args below meth c x H locs lsA C Hp L
  have hg := ax_W_get (x := x) Hp.2.2.1 hc
  obtain ⟨hin, ⟨ty0, hty⟩, hnm⟩ := ax_cls h1
  have hts := C.2.2.2.2.2.2.2.1
  have hK := C.2.2.2.2.2.2.2.2.1
  have hown := C.2.2.2.2.2.1
  have hap := va_apart (own := F.1.1.cls) hts hin ty0 hty hnm hK h1
  obtain ⟨r, h1', cell, q1, q2, q3, q4⟩ := Hp.2.1 a _ hg
  have hr : r = (C', T, N) := Option.some.inj (h1'.symm.trans h1)
  subst hr
  obtain ⟨hS, hfc, kC, hkC, hkind⟩ := hK.1 ci _ h1
  obtain ⟨cf, kf, fi, f, hi, hsl⟩ := hS i h2
  have hlay := hts _ (hin _ (u_in_lay h2))
  unfold u_lay at hlay
  rw [if_pos hfin] at hlay
  have hst := (u_facts hfc hkC (u_lays hts hin h2) hi).1
  have hcf : m.cls = cf := by
    obtain ⟨_, _, c', _, _, _, -, -, hf', -, -, -, hown2, -⟩ := Cond.laysFinal_spec hlay
    have e1 : c' = cf := by have := hi.symm.trans hf'; simp at this; exact this.1.symm
    rw [hdecl] at hown2
    rw [← e1]; exact Option.some.inj (hown.symm.trans hown2)
  have h6 := u_fits hfc hkC hkind (Or.inr hlay) hi hpd (hn x).1 (hn x).2
  refine W.putFinK C.1 C.2.1 hown (hts _ h3) hi hst hcf (C.2.2.2.2.2.2.1.trans hnm0) (by rw [q2]; exact h6) q1 q3 (by rw [hsl]; exact k2_hasslot (q4 i h2)) rfl rfl hd fun H' e1 e2 e3 => ?_
  refine kk p l e s m args below meth c x H' _ lsA C (Hp.up hc e2 e3 ⟨_, h1, ?_⟩) L
  rw [hsl] at e1
  refine t_OB.to (V := updV (vp_V (fs.map (ax_cv x))) i (ax_cv x v)) ⟨_, e1, q2, q3, t_set q4 hap h2 _⟩ (fun j _ => ?_)
  show _ = vp_V ((fs.set i v).map (ax_cv x)) j
  rw [List.map_set]
  exact vp_updV_set (by rw [List.length_map]; exact hlen) _ j
theorem ax_iald {a n j : Nat} {f : Nat → Int32} {i : Int32} (hc : σ.1 a = some (.inl (false, n, f))) (hi : i = nI j) (hj : j < n) (hn : n < 2 ^ 31) (hd : decode F.1.2.1 pc = .ok (.iaload, 1)) (hp : pc + 1 = pc') (kk : ax_J F k w pc' ls (.int (f j) :: st) σ post) : ax_J F k w pc ls (.int i :: .ref a :: st) σ post := by
  subst hp
  subst hi
  intro p l e s m args below meth c x H locs lsA C Hp L
  have hg := ax_W_get (x := x) Hp.2.2.1 hc
  have h1 := kk p l e s m args below meth c x H locs lsA C Hp L
  refine va_iald (i := nI j) C.1 C.2.1 C.2.2.2.2.2.2.2.2.1 Hp.2.1 a 0 hg rfl (vp_in_nI hj hn) hd ?_
  rw [nI_clamp (by omega)]
  exact h1
theorem ax_bald {a n j : Nat} {f : Nat → Int32} {i : Int32} (hc : σ.1 a = some (.inl (true, n, f))) (hi : i = nI j) (hj : j < n) (hn : n < 2 ^ 31) (hd : decode F.1.2.1 pc = .ok (.baload, 1)) (hp : pc + 1 = pc') (kk : ax_J F k w pc' ls (.int (f j) :: st) σ post) : ax_J F k w pc ls (.int i :: .ref a :: st) σ post := by
  subst hp
  subst hi
  intro p l e s m args below meth c x H locs lsA C Hp L
  have hg := ax_W_get (x := x) Hp.2.2.1 hc
  have h1 := kk p l e s m args below meth c x H locs lsA C Hp L
  refine va_bald (i := nI j) C.1 C.2.1 C.2.2.2.2.2.2.2.2.1 Hp.2.1 a 1 hg rfl (vp_in_nI hj hn) hd ?_
  rw [nI_clamp (by omega)]
  exact h1
theorem ax_alen {a n : Nat} {f : Nat → Int32} (hc : σ.1 a = some (.inl (false, n, f))) (hd : decode F.1.2.1 pc = .ok (.arraylength, 1)) (hp : pc + 1 = pc') (kk : ax_J F k w pc' ls (.int (nI n) :: st) σ post) : ax_J F k w pc ls (.ref a :: st) σ post := by
  subst hp
  intro p l e s m args below meth c x H locs lsA C Hp L
  exact va_alen C.1 C.2.1 C.2.2.2.2.2.2.2.2.1 Hp.2.1 a 0 (ax_W_get (x := x) Hp.2.2.1 hc) rfl rfl hd (kk p l e s m args below meth c x H locs lsA C Hp L)
theorem ax_iast {a n j : Nat} {f : Nat → Int32} {i v : Int32} (hc : σ.1 a = some (.inl (false, n, f))) (hi : i = nI j) (hj : j < n) (hn : n < 2 ^ 31) (hd : decode F.1.2.1 pc = .ok (.iastore, 1)) (hp : pc + 1 = pc') (kk : ax_J F k w pc' ls st (ax_up σ.1 a (.inl (false, n, upd f j v)), σ.2) post) : ax_J F k w pc ls (.int v :: .int i :: .ref a :: st) σ post := by
  subst hp
  subst hi
  intro p l e s m args below meth c x H locs lsA C Hp L
  have hg := ax_W_get (x := x) Hp.2.2.1 hc
  have hcl : (nI j).toNatClampNeg = j := nI_clamp (by omega)
  refine W.iast (j := nI j) C.1 C.2.1 (Hp.2.1 a _ hg) ((C.2.2.2.2.2.2.2.2.1.2 0 _ rfl).1 n (fun j => .int (f j))) (fun q => by cases q) (by show ¬ (nI j < 0 ∨ (arrV _ _ _).slots.size ≤ _); rw [arrV_size]; exact vp_in_nI hj hn) rfl rfl hd fun H1 e1 z oq => ?_
  refine kk p l e s m args below meth c x H1 _ lsA C (Hp.up hc z oq ?_) L
  show H1[x.1 + a]? = some (vp_cell _ _)
  rw [e1, hcl]
  simp only [ax_cE]
  rw [vp_cell_i, vp_cell_i, arrV_store]
  congr 2
  funext q
  by_cases hq : q = j
  · subst hq
    simp [updV, upd]
  · simp [updV, upd, hq]
theorem ax_bast {a n j : Nat} {f : Nat → Int32} {i v : Int32} (hc : σ.1 a = some (.inl (true, n, f))) (hi : i = nI j) (hj : j < n) (hn : n < 2 ^ 31) (hd : decode F.1.2.1 pc = .ok (.bastore, 1)) (hp : pc + 1 = pc') (kk : ax_J F k w pc' ls st (ax_up σ.1 a (.inl (true, n, upd f j (vp_nar .byte v))), σ.2) post) : ax_J F k w pc ls (.int v :: .int i :: .ref a :: st) σ post := by
  subst hp
  subst hi
  intro p l e s m args below meth c x H locs lsA C Hp L
  have hg := ax_W_get (x := x) Hp.2.2.1 hc
  have hcl : (nI j).toNatClampNeg = j := nI_clamp (by omega)
  refine W.bast (j := nI j) C.1 C.2.1 (Hp.2.1 a _ hg) ((C.2.2.2.2.2.2.2.2.1.2 1 _ rfl).1 n (fun j => .int (f j))) (fun q => by cases q) (by show ¬ (nI j < 0 ∨ (arrV _ _ _).slots.size ≤ _); rw [arrV_size]; exact vp_in_nI hj hn) rfl rfl hd fun H1 e1 z oq => ?_
  refine kk p l e s m args below meth c x H1 _ lsA C (Hp.up hc z oq ?_) L
  show H1[x.1 + a]? = some (vp_cell _ _)
  rw [e1, hcl]
  simp only [ax_cE]
  rw [vp_cell_i, vp_cell_i, arrV_store]
  congr 2
  funext q
  by_cases hq : q = j
  · subst hq
    simp [updV, upd, vp_nar]
    try rfl
  · simp [updV, upd, hq]
theorem ax_Hp.push {x : ax_X} {s : State} {H H1 : Heap} {locs : List Loc} {c : ax_C} (h : ax_Hp x σ s H locs) (hz : H1.size = H.size + 1) (ho : ∀ q : Nat, q < H.size → H1[q]? = H[q]?) (he : va_at x.2.2.1 vwCl (x.1 + σ.2, ax_cE x c) H1) : ax_Hp x (ax_up σ.1 σ.2 c, σ.2 + 1) s H1 locs := by
  refine ⟨by rw [hz, h.1]; omega, ?_, ax_up_push h.2.2.1, ⟨Nat.le_trans h.2.2.2.1.1 (by omega), fun q h1 h2 => (ho q (Nat.lt_of_lt_of_le h1 h.2.2.2.1.1)).trans (h.2.2.2.1.2.1 q h1 h2), h.2.2.2.1.2.2⟩, h.2.2.2.2⟩
  rw [← ax_W_push]
  refine (h.2.1.kept (fun k q hk => ho q.1 (h.2.1 k q hk).lt)).app (fun k q hk => ?_)
  have hz : k < 1 := (List.getElem?_eq_some_iff.mp hk).1
  rw [show k = 0 by omega] at hk
  cases hk
  exact he
theorem ax_newi {i : Int32} {n : Nat} (hi : i = nI n) (hn : n ≤ 1000) (hk : k + 1 ≤ F.2.2.1) (hw : w + n ≤ F.2.2.2) (hd : decode F.1.2.1 pc = .ok (.newarray .int, 2)) (hp : pc + 2 = pc') (harr : Cond.arrayClass .int ∈ ax_Big) (kk : ax_J F (k + 1) (w + n) pc' ls (.ref σ.2 :: st) (ax_up σ.1 σ.2 (.inl (false, n, fun _ => 0)), σ.2 + 1) post) : ax_J F k w pc ls (.int i :: st) σ post := by
  subst hp
  subst hi
  intro p l e s m args below meth c x H locs lsA C Hp L
  have hK := C.2.2.2.2.2.2.2.2.1
  refine va_newaK C.1 C.2.1 (atype := .int) (C.2.2.2.2.2.2.2.1 _ harr) rfl hd (n := nI n) (N := n) rfl (nI_pos (by omega)) (nI_clamp (by omega)) (by show n * 4 ≤ 536870912; omega) hk hw (h := x.1 + σ.2) Hp.1 fun H1 cA e1 z1 o1 hAr hNm => ?_
  have hcA : cA = x.2.2.2.1 := Option.some.inj (hNm.symm.trans (hK.2 0 _ rfl).2)
  subst hcA
  refine kk p l e s m args below meth c x H1 _ lsA C (Hp.push (by rw [z1, Hp.1]) (fun q hq => o1 q (by rw [← Hp.1]; exact hq)) ?_) L
  show H1[x.1 + σ.2]? = some (vp_cell _ _)
  rw [e1]
  rfl
theorem ax_newb {i : Int32} {n : Nat} (hi : i = nI n) (hn : n ≤ 1000) (hk : k + 1 ≤ F.2.2.1) (hw : w + n ≤ F.2.2.2) (hd : decode F.1.2.1 pc = .ok (.newarray .byte, 2)) (hp : pc + 2 = pc') (harr : Cond.arrayClass .byte ∈ ax_Big) (kk : ax_J F (k + 1) (w + n) pc' ls (.ref σ.2 :: st) (ax_up σ.1 σ.2 (.inl (true, n, fun _ => 0)), σ.2 + 1) post) : ax_J F k w pc ls (.int i :: st) σ post := by
  subst hp
  subst hi
  intro p l e s m args below meth c x H locs lsA C Hp L
  have hK := C.2.2.2.2.2.2.2.2.1
  refine va_newaK C.1 C.2.1 (atype := .byte) (C.2.2.2.2.2.2.2.1 _ harr) rfl hd (n := nI n) (N := n) rfl (nI_pos (by omega)) (nI_clamp (by omega)) (by show n * 1 ≤ 536870912; omega) hk hw (h := x.1 + σ.2) Hp.1 fun H1 cA e1 z1 o1 hAr hNm => ?_
  have hcA : cA = x.2.2.2.2 := Option.some.inj (hNm.symm.trans (hK.2 1 _ rfl).2)
  subst hcA
  refine kk p l e s m args below meth c x H1 _ lsA C (Hp.push (by rw [z1, Hp.1]) (fun q hq => o1 q (by rw [← Hp.1]; exact hq)) ?_) L
  show H1[x.1 + σ.2]? = some (vp_cell _ _)
  rw [e1]
  rfl
theorem ax_new {ci idx N : Nat} {C' : String} {T : u_T} {ty : Nat → FieldType} {fs : List Value} (h1 : vwCl[ci]? = some (C', T, N)) (hty : ∀ k, k < N → parseFieldDescriptor (T k).2.2.1 = some (ty k)) (hcl : Cond.classLink F.1.1.cls idx C' ∈ ax_Big) (hins : Cond.instantiable C' N ∈ ax_Big) (hini : Cond.initialized C' ∈ ax_Big) (hfs : ∀ (x : ax_X) (j : Nat), j < N → defaultValue (ty j) = vp_V (fs.map (ax_cv x)) j) (hk : k + 1 ≤ F.2.2.1) (hw : w + N ≤ F.2.2.2) (hd : decode F.1.2.1 pc = .ok (.new idx, 3)) (hp : pc + 3 = pc') (kk : ax_J F (k + 1) (w + N) pc' ls (.ref σ.2 :: st) (ax_up σ.1 σ.2 (.inr (ci, fs)), σ.2 + 1) post) : ax_J F k w pc ls st σ post := by
  subst hp
  intro p l e s m args below meth c x H locs lsA C Hp L
  have hts := C.2.2.2.2.2.2.2.1
  have hKn := C.2.2.2.2.2.2.2.2.1.1 ci _ h1
  refine W.newcK C.1 C.2.1 C.2.2.2.2.2.1 (hts _ hcl) (hts _ hins) (hts _ hini) rfl hd hk hw hKn.2.1 (h := x.1 + σ.2) Hp.1 fun H1 kC hkC e1 z1 o1 => ?_
  refine kk p l e s m args below meth c x H1 _ lsA C (Hp.push (by rw [z1, Hp.1]) (fun q hq => o1 q (by rw [← Hp.1]; exact hq)) ⟨_, h1, ?_⟩) L
  exact (u_born ty hts (ax_cls h1).1 hKn hkC e1 hty).to (hfs x)
theorem ax_objInit {a idx : Nat} (h1 : Cond.methodLink F.1.1.cls idx Lib.objectInit ∈ ax_Big) (h2 : Cond.instanceMethod Lib.objectInit ∈ ax_Big) (h3 : Cond.code Lib.objectInit ⟨#[0xb1]⟩ 1 none ∈ ax_Big) (hst : (st.map Value.category).sum ≤ 8) (hdd : 1 ≤ F.2.1) (hd : decode F.1.2.1 pc = .ok (.invokespecial idx, 3)) (hp : pc + 3 = pc') (kk : ax_J F k w pc' ls st σ post) : ax_J F k w pc ls (.ref a :: st) σ post := by
  subst hp
  intro p l e s m args below meth c x H locs lsA C Hp L
  have hts := C.2.2.2.2.2.2.2.1
  refine W.objInit (g := F0 m pc lsA _) C.1 C.2.1 C.2.2.2.2.2.1 (hts _ h1) (hts _ h2) (hts _ h3) rfl (L.1.trans C.2.2.2.2.1.symm) rfl hd hdd ?_ (kk p l e s m args below meth c x H locs lsA C Hp L)
  have e0 : ((st.map (ax_cv x)).map fun v => v.category).sum = (st.map Value.category).sum := by
    rw [List.map_map]; congr 1; exact List.map_congr_left (fun v _ => ax_cv_cat v)
  have := lv_room (m := m) (pc := pc) (ls := lsA) (rest := []) (st := st.map (ax_cv x)) (by rw [e0]; exact hst)
  show 2 * (F0 m pc lsA _).monitorRoom + _ + 12 ≤ 35 * F.2.1
  have h9 : 2 * (F0 m pc lsA ((Value.ref a :: st).map (ax_cv x))).monitorRoom + ((st.map (ax_cv x)).map fun v => v.category).sum ≤ 8 := this
  omega

end AXR
/-! calls -/
def ax_push : List Value → List Value → List Value
  | [], r => r
  | v :: vs, r => ax_push vs (v :: r)
theorem ax_push_eq : ∀ (av r : List Value), ax_push av r = av.reverse ++ r := by
  intro av
  induction av with
  | nil => intro r; rfl
  | cons v vs ih => intro r; rw [ax_push, ih]; simp
theorem ax_Ws_good {M : ax_M} (hc : Cond.code M.1 M.2.1 M.2.2.1 M.2.2.2 ∈ ax_Big) : GoodIn ax_Big (ax_Ws M) := by
  intro w hw
  rcases List.mem_cons.mp hw with rfl | h
  · exact ax_good _ hc
  · exact ax_good _ h
theorem ax_blind {x : ax_X} {av : List Value} {σ : ax_S} : FrameBlind (ax_Pc x av σ) := by
  intro a U g mk h
  exact ⟨h.1, h.2.1, h.2.2.1, h.2.2.2.1, h.2.2.2.2.same rfl rfl⟩
theorem ax_pre {x : ax_X} {av : List Value} {σ : ax_S} {s U : State} {H : Heap} {locs : List Loc} (Hp : ax_Hp x σ s H locs) (hK : ax_K x s) (hU : U.heap = H) (hW : s.WarmedH U.vm) : ax_Pc x av σ (av.map (ax_cv x)).toArray U :=
  ⟨rfl, ax_In.of Hp hK hU hW⟩
section AXC
variable {F : ax_F} {k w pc pc' : Nat} {ls : List (Option Value)} {σ : ax_S} {post : Option Value → ax_S → Prop}
theorem ax_after {p : Program} {l : Launch} {e : Env} {s : State} {m : MethodId} {args a : Array Value} {below : List Frame} {meth : Method} {c : Code} {x : ax_X} {H : Heap} {locs : List Loc} {lsA : Array Slot} {mc ms : Nat} {post' : Option Value → ax_S → Prop} {st0 rest : List Value}
    (hr : va_Run p l e (ax_Rm F.2.1 F.2.2.1 F.2.2.2) s m args below meth c H locs k w mc ms (F0 m pc lsA st0) (rest.map (ax_cv x)) (ax_Q x post' a) (fun q => x.1 ≤ q)) (C : ax_Cx F p s m args meth c x) (Hp : ax_Hp x σ s H locs) (L : ax_Ls x F.1.2.2.1 lsA ls)
    (kk : ∀ r σ', post' r σ' → ax_J F (k + mc) (w + ms) (pc + 3) ls (r.toList ++ rest) σ' post) : W p l e (ax_Rm F.2.1 F.2.2.1 F.2.2.2) s m args below meth c H locs k w (MQ below (ax_Q x post) args s F.2.2.1 F.2.2.2 (fun q => x.1 ≤ q)) (F0 m pc lsA st0) := by
  intro T hT X
  obtain ⟨v, st₀, t, T', L', h0, X', hL, e1, e2, ⟨⟨r, σ', hv, hp, hIn⟩, hz, hk⟩, st⟩ := hr T hT X
  cases hv
  rw [h0] at hz hk
  have hS : va_S (fun q => x.1 ≤ q) s.heap T'.heap (locs ++ L') := ⟨Nat.le_trans Hp.2.2.2.1.1 (by rw [e1]; exact hz), fun q h1 h2 => by rw [e1, hk q (Nat.lt_of_lt_of_le h1 Hp.2.2.2.1.1) h2]; exact Hp.2.2.2.1.2.1 q h1 h2, fun q hq => by
    rcases List.mem_append.mp hq with h | h
    · exact Hp.2.2.2.1.2.2 q h
    · exact hL q h⟩
  obtain ⟨t2, a1, b1⟩ := kk r σ' hp p l e s m args below meth c x T'.heap (locs ++ L') lsA C ⟨by rw [e1]; exact hIn.1, by rw [e1]; exact hIn.2.1, hIn.2.2.1, hS, Hp.2.2.2.2⟩ L T' rfl X'
  refine ⟨t2, st t2 ?_, b1⟩
  have e9 : (r.map (ax_cv x)).toList ++ rest.map (ax_cv x) = (r.toList ++ rest).map (ax_cv x) := by cases r <;> simp
  rw [e9]
  exact a1
theorem ax_rest {x : ax_X} {m : MethodId} {lsA : Array Slot} {st0 rest : List Value} (h : (rest.map Value.category).sum ≤ 8) : 2 * (F0 m pc lsA st0).monitorRoom + ((rest.map (ax_cv x)).map fun v => v.category).sum ≤ 8 := by
  have e0 : ((rest.map (ax_cv x)).map fun v => v.category).sum = (rest.map Value.category).sum := by
    rw [List.map_map]; congr 1; exact List.map_congr_left (fun v _ => ax_cv_cat v)
  exact lv_room (m := m) (pc := pc) (ls := lsA) (rest := st0) (st := rest.map (ax_cv x)) (by rw [e0]; exact h)
/-- a link to a static method -/
def ax_LS (own : String) (idx : Nat) (M : ax_M) (n : Nat) : Prop :=
  Cond.code M.1 M.2.1 M.2.2.1 M.2.2.2 ∈ ax_Big ∧ Cond.static M.1 ∈ ax_Big ∧ Cond.initialized M.1.cls ∈ ax_Big ∧ (Cond.methodLink own idx M.1 ∈ ax_Big ∨ ∃ host : String, (own, idx, M.1, host) ∈ ax_NM) ∧ M.2.2.1 ≤ 16 ∧ (M.1.cls ≠ "java/lang/invoke/MethodHandle" ∧ M.1.cls ≠ "java/lang/invoke/VarHandle" ∧ (parseMethodDescriptor M.1.desc).map (fun d => d.parameters.length) = some n)
def ax_LV (own : String) (idx : Nat) (M : ax_M) (n ci : Nat) : Prop :=
  Cond.code M.1 M.2.1 M.2.2.1 M.2.2.2 ∈ ax_Big ∧ Cond.instanceMethod M.1 ∈ ax_Big ∧ Cond.selects M.1.cls M.1 M.1 ∈ ax_Big ∧ (vwCl[ci]?).map (fun q => q.1) = some M.1.cls ∧ Cond.initialized M.1.cls ∈ ax_Big ∧ (Cond.methodLink own idx M.1 ∈ ax_Big ∨ ∃ host : String, (own, idx, M.1, host) ∈ ax_NM) ∧ M.2.2.1 ≤ 16 ∧ (M.1.cls ≠ "java/lang/invoke/MethodHandle" ∧ M.1.cls ≠ "java/lang/invoke/VarHandle" ∧ (parseMethodDescriptor M.1.desc).map (fun d => d.parameters.length) = some n)
def ax_LI (own : String) (idx : Nat) (M : ax_M) (n : Nat) : Prop :=
  Cond.code M.1 M.2.1 M.2.2.1 M.2.2.2 ∈ ax_Big ∧ Cond.instanceMethod M.1 ∈ ax_Big ∧ Cond.initialized M.1.cls ∈ ax_Big ∧ (Cond.methodLink own idx M.1 ∈ ax_Big ∨ ∃ host : String, (own, idx, M.1, host) ∈ ax_NM) ∧ M.2.2.1 ≤ 16 ∧ (M.1.cls ≠ "java/lang/invoke/MethodHandle" ∧ M.1.cls ≠ "java/lang/invoke/VarHandle" ∧ (parseMethodDescriptor M.1.desc).map (fun d => d.parameters.length) = some n) ∧ M.1.name = "<init>" ∧ M.2.2.2 = none
theorem ax_callS {M : ax_M} {d mc ms n idx : Nat} {av st rest : List Value} {post' : Option Value → ax_S → Prop} (hl : ax_LS F.1.1.cls idx M n) (hN : ax_N M d mc ms av σ post') (hst : st = ax_push av rest) (hlen : av.length = n) (hdd : d + 1 ≤ F.2.1) (hr : (rest.map Value.category).sum ≤ 8) (hk : k + mc ≤ F.2.2.1) (hw : w + ms ≤ F.2.2.2) (hd : decode F.1.2.1 pc = .ok (.invokestatic idx, 3)) (hp : pc + 3 = pc')
    (kk : ∀ r σ', post' r σ' → ax_J F (k + mc) (w + ms) pc' ls (r.toList ++ rest) σ' post) : ax_J F k w pc ls st σ post := by
  subst hp
  subst hst
  obtain ⟨h1, h2, h3, h4, h5, h6⟩ := hl
  intro p l e s m args below meth c x H locs lsA C Hp L
  have hts := C.2.2.2.2.2.2.2.1
  have hR : (ax_Rm d mc ms).frames + 1 ≤ (ax_Rm F.2.1 F.2.2.1 F.2.2.2).frames ∧ 8 + (M.2.2.1 + 11) + (ax_Rm d mc ms).locals ≤ (ax_Rm F.2.1 F.2.2.1 F.2.2.2).locals := ⟨hdd, by show 8 + (M.2.2.1 + 11) + 35 * d ≤ 35 * F.2.1; omega⟩
  have hstk : (ax_push av rest).map (ax_cv x) = (av.map (ax_cv x)).reverse ++ rest.map (ax_cv x) := by rw [ax_push_eq, List.map_append, List.map_reverse]
  have hpre : PreS s H (ax_Pc x av σ) (av.map (ax_cv x)) := ⟨ax_blind, fun U hU hW => ax_pre Hp C.2.2.2.2.2.2.2.2 hU hW⟩
  have hfx : CallFix p m c F.1.2.1 F.1.2.2.1 s args ax_Big F.1.1.cls := ⟨C.1, C.2.1, C.2.2.2.2.1, C.2.2.2.2.2.1, hts⟩
  rcases h4 with h4 | ⟨host, h4⟩
  · exact ax_after (va_runS (g := F0 m pc lsA _) hfx (hN l x) ⟨callB_of n hts (ax_Ws_good h1) rfl rfl rfl (hts _ h3) (hts _ h4) h6 hR, hts _ h2⟩ hpre rfl (by rw [List.length_map]; exact hlen) L.1 hstk (ax_rest hr) hd ⟨hk, hw⟩) C Hp L kk
  · exact ax_after (va_runSN (g := F0 m pc lsA _) hfx (hN l x) ⟨va_cnB n hts (ax_Ws_good h1) rfl rfl rfl (C.2.2.2.2.2.2.2.2.2.2.1 _ h4) (hts _ h3) h6 hR, hts _ h2, trivial⟩ hpre rfl (by rw [List.length_map]; exact hlen) L.1 hstk (ax_rest hr) hd ⟨hk, hw⟩) C Hp L kk
theorem ax_callV {M : ax_M} {d mc ms n idx ci a : Nat} {fs av st rest : List Value} {post' : Option Value → ax_S → Prop} (hl : ax_LV F.1.1.cls idx M n ci) (hN : ax_N M d mc ms (.ref a :: av) σ post') (hc : σ.1 a = some (.inr (ci, fs))) (hst : st = ax_push (.ref a :: av) rest) (hlen : av.length = n) (hdd : d + 1 ≤ F.2.1) (hr : (rest.map Value.category).sum ≤ 8) (hk : k + mc ≤ F.2.2.1) (hw : w + ms ≤ F.2.2.2) (hd : decode F.1.2.1 pc = .ok (.invokevirtual idx, 3)) (hp : pc + 3 = pc')
    (kk : ∀ r σ', post' r σ' → ax_J F (k + mc) (w + ms) pc' ls (r.toList ++ rest) σ' post) : ax_J F k w pc ls st σ post := by
  subst hp
  subst hst
  obtain ⟨h1, h2, h2s, h2c, h3, h4, h5, h6⟩ := hl
  intro p l e s m args below meth c x H locs lsA C Hp L
  have hts := C.2.2.2.2.2.2.2.1
  have hR : (ax_Rm d mc ms).frames + 1 ≤ (ax_Rm F.2.1 F.2.2.1 F.2.2.2).frames ∧ 8 + (M.2.2.1 + 11) + (ax_Rm d mc ms).locals ≤ (ax_Rm F.2.1 F.2.2.1 F.2.2.2).locals := ⟨hdd, by show 8 + (M.2.2.1 + 11) + 35 * d ≤ 35 * F.2.1; omega⟩
  have hstk : (ax_push (.ref a :: av) rest).map (ax_cv x) = (av.map (ax_cv x)).reverse ++ .ref (x.1 + a) :: rest.map (ax_cv x) := by rw [ax_push_eq]; simp [ax_cv]
  obtain ⟨q, hq, hqe⟩ := Option.map_eq_some_iff.mp h2c
  have hrecv := va_recv C.2.2.2.2.2.2.2.2.1 Hp.2.1 hq (ax_W_get (x := x) Hp.2.2.1 hc)
  rw [hqe] at hrecv
  have hpre : PreV s H M.1.cls (x.1 + a) (ax_Pc x (.ref a :: av) σ) (av.map (ax_cv x)) := ⟨ax_blind, hrecv, fun U hU hW => ax_pre (av := .ref a :: av) Hp C.2.2.2.2.2.2.2.2 hU hW⟩
  have hfx : CallFix p m c F.1.2.1 F.1.2.2.1 s args ax_Big F.1.1.cls := ⟨C.1, C.2.1, C.2.2.2.2.1, C.2.2.2.2.2.1, hts⟩
  rcases h4 with h4 | ⟨host, h4⟩
  · exact ax_after (va_runV (g := F0 m pc lsA _) hfx (hN l x) ⟨callB_of n hts (ax_Ws_good h1) rfl rfl rfl (hts _ h3) (hts _ h4) h6 hR, hts _ h2, hts _ h2s⟩ hpre rfl (by rw [List.length_map]; exact hlen) L.1 hstk (ax_rest hr) hd ⟨hk, hw⟩) C Hp L kk
  · exact ax_after (va_runVN (g := F0 m pc lsA _) hfx (hN l x) ⟨va_cnB n hts (ax_Ws_good h1) rfl rfl rfl (C.2.2.2.2.2.2.2.2.2.2.1 _ h4) (hts _ h3) h6 hR, hts _ h2, hts _ h2s⟩ hpre rfl (by rw [List.length_map]; exact hlen) L.1 hstk (ax_rest hr) hd ⟨hk, hw⟩) C Hp L kk
theorem ax_callI {M : ax_M} {d mc ms n idx a : Nat} {av st rest : List Value} {post' : Option Value → ax_S → Prop} (hl : ax_LI F.1.1.cls idx M n) (hN : ax_N M d mc ms (.ref a :: av) σ post') (hst : st = ax_push (.ref a :: av) rest) (hlen : av.length = n) (hdd : d + 1 ≤ F.2.1) (hr : (rest.map Value.category).sum ≤ 8) (hk : k + mc ≤ F.2.2.1) (hw : w + ms ≤ F.2.2.2) (hd : decode F.1.2.1 pc = .ok (.invokespecial idx, 3)) (hp : pc + 3 = pc')
    (kk : ∀ r σ', post' r σ' → ax_J F (k + mc) (w + ms) pc' ls (r.toList ++ rest) σ' post) : ax_J F k w pc ls st σ post := by
  subst hp
  subst hst
  obtain ⟨h1, h2, h3, h4, h5, h6, h7, h8⟩ := hl
  intro p l e s m args below meth c x H locs lsA C Hp L
  have hts := C.2.2.2.2.2.2.2.1
  have hR : (ax_Rm d mc ms).frames + 1 ≤ (ax_Rm F.2.1 F.2.2.1 F.2.2.2).frames ∧ 8 + (M.2.2.1 + 11) + (ax_Rm d mc ms).locals ≤ (ax_Rm F.2.1 F.2.2.1 F.2.2.2).locals := ⟨hdd, by show 8 + (M.2.2.1 + 11) + 35 * d ≤ 35 * F.2.1; omega⟩
  have hstk : (ax_push (.ref a :: av) rest).map (ax_cv x) = (av.map (ax_cv x)).reverse ++ .ref (x.1 + a) :: rest.map (ax_cv x) := by rw [ax_push_eq]; simp [ax_cv]
  have hpre : PreS s H (ax_Pc x (.ref a :: av) σ) (.ref (x.1 + a) :: av.map (ax_cv x)) := ⟨ax_blind, fun U hU hW => ax_pre (av := .ref a :: av) Hp C.2.2.2.2.2.2.2.2 hU hW⟩
  have hfx : CallFix p m c F.1.2.1 F.1.2.2.1 s args ax_Big F.1.1.cls := ⟨C.1, C.2.1, C.2.2.2.2.1, C.2.2.2.2.2.1, hts⟩
  have hwe : ax_Ws M = Cond.code M.1 M.2.1 M.2.2.1 none :: ax_Big := by rw [ax_Ws, h8]
  rcases h4 with h4 | ⟨host, h4⟩
  · exact ax_after (va_runI (g := F0 m pc lsA _) hfx (hN l x) ⟨callB_of n hts (ax_Ws_good h1) hwe rfl rfl (hts _ h3) (hts _ h4) h6 hR, h7, hts _ h2⟩ hpre rfl (by rw [List.length_map]; exact hlen) L.1 hstk (ax_rest hr) hd ⟨hk, hw⟩) C Hp L kk
  · exact ax_after (va_runIN (g := F0 m pc lsA _) hfx (hN l x) ⟨va_cnB n hts (ax_Ws_good h1) hwe rfl rfl (C.2.2.2.2.2.2.2.2.2.2.1 _ h4) (hts _ h3) h6 hR, h7, hts _ h2⟩ hpre rfl (by rw [List.length_map]; exact hlen) L.1 hstk (ax_rest hr) hd ⟨hk, hw⟩) C Hp L kk
end AXC
def ax_ent : List Value → List (Option Value)
  | [] => []
  | .long v :: vs => some (.long v) :: none :: ax_ent vs
  | .double v :: vs => some (.double v) :: none :: ax_ent vs
  | v :: vs => some v :: ax_ent vs
theorem ax_ent_args (x : ax_X) : ∀ (vs : List Value) (n : Nat) (i : Nat) (v : Value), (ax_ent vs)[i]? = some (some v) → (n + i, ax_cv x v) ∈ lv_args n (vs.map (ax_cv x)) := by
  intro vs
  induction vs with
  | nil => intro n i v h; simp [ax_ent] at h
  | cons u us ih =>
    intro n i v h
    by_cases hu : u.category = 2
    · have he : ax_ent (u :: us) = some u :: none :: ax_ent us := by cases u <;> first | rfl | (simp [Value.category] at hu)
      rw [he] at h
      show _ ∈ (n, ax_cv x u) :: lv_args (if (ax_cv x u).category = 2 then n + 2 else n + 1) (us.map (ax_cv x))
      rw [ax_cv_cat, if_pos hu]
      match i, h with
      | 0, h =>
        have : u = v := by simpa using h
        subst this
        exact List.mem_cons_self
      | 1, h => simp at h
      | i + 2, h =>
        have h1 := ih (n + 2) i v (by simpa using h)
        rw [show n + (i + 2) = n + 2 + i by omega]
        exact List.mem_cons_of_mem _ h1
    · have he : ax_ent (u :: us) = some u :: ax_ent us := by cases u <;> first | rfl | (simp [Value.category] at hu)
      rw [he] at h
      show _ ∈ (n, ax_cv x u) :: lv_args (if (ax_cv x u).category = 2 then n + 2 else n + 1) (us.map (ax_cv x))
      rw [ax_cv_cat, if_neg hu]
      match i, h with
      | 0, h =>
        have : u = v := by simpa using h
        subst this
        exact List.mem_cons_self
      | i + 1, h =>
        have h1 := ih (n + 1) i v (by simpa using h)
        rw [show n + (i + 1) = n + 1 + i by omega]
        exact List.mem_cons_of_mem _ h1
theorem ax_ent_len (x : ax_X) : ∀ vs : List Value, (lg_sl (vs.map (ax_cv x))).length = (ax_ent vs).length := by
  intro vs
  induction vs with
  | nil => rfl
  | cons u us ih =>
    have e1 : lg_sl ((u :: us).map (ax_cv x)) = (if (ax_cv x u).category = 2 then [Slot.val (ax_cv x u), Slot.second] else [Slot.val (ax_cv x u)]) ++ lg_sl (us.map (ax_cv x)) := rfl
    rw [e1, List.length_append, ih, ax_cv_cat]
    by_cases hu : u.category = 2
    · have he : ax_ent (u :: us) = some u :: none :: ax_ent us := by cases u <;> first | rfl | (simp [Value.category] at hu)
      rw [he, if_pos hu]
      simp
      omega
    · have he : ax_ent (u :: us) = some u :: ax_ent us := by cases u <;> first | rfl | (simp [Value.category] at hu)
      rw [he, if_neg hu]
      simp
      omega
/-- a contract out of the walk of a method's body -/
theorem ax_N.of {M : ax_M} {d mc ms : Nat} {av : List Value} {σ : ax_S} {post : Option Value → ax_S → Prop} {ls : List (Option Value)} (hy : plainName M.1.cls = true) (hl : ax_ent av ++ List.replicate (M.2.2.1 - (ax_ent av).length) none = ls) (hle : (ax_ent av).length ≤ M.2.2.1) (body : ax_J (M, d, mc, ms) 0 0 0 ls [] σ post) : ax_N M d mc ms av σ post := by
  intro l x
  refine Met.ofW (cc := M.2.1) (maxL := M.2.2.1) (ret := M.2.2.2) hy rfl ?_
  intro p e s m args below meth c s₁ B hml hv
  obtain ⟨rfl, hIn⟩ := hv
  have hts := atoms_spec (ws := ax_Ws M) B.pre
  have hown : s.vm.findClass M.1.cls = some m.cls := findClass_of_methodNamed B.named
  have hnm : meth.name = M.1.name := (name_of_methodNamed B.named B.method).1
  rw [lg_entry_eq]
  have hen := lv_entry (av.map (ax_cv x)) (n := M.2.2.1) (by rw [ax_ent_len]; exact hle)
  refine body p l e s m _ below meth c x s.heap [] _ ⟨B.exec, B.bytes, B.returns, B.notSynchronized, hml, hown, hnm, fun w hw => hts w (List.mem_cons_of_mem _ hw), hIn.2.2.2⟩ ⟨hIn.1, hIn.2.1, hIn.2.2.1, va_S.rf, by rw [hIn.1]; omega⟩ ⟨hen.1, hen.2.1, fun i v hi => ?_⟩
  refine hen.2.2 (i, ax_cv x v) ?_
  have h1 := ax_ent_args x av 0 i v ?_
  · rw [Nat.zero_add] at h1
    exact h1
  · rw [← hl] at hi
    by_cases hb : i < (ax_ent av).length
    · rw [List.getElem?_append_left hb] at hi
      exact hi
    · rw [List.getElem?_append_right (by omega), List.getElem?_replicate] at hi
      split at hi
      · cases hi
      · cases hi

