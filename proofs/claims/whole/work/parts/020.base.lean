/-! THE BASE: what every contract takes of its surroundings (En), its start and its end, calls and returns in one row each -/
/-- private fields of another class of the nest: who, pool place, whose, name, descriptor -/
def nest_fs : List (String × Nat × String × String × String) := [("ScanTester$Program", 64, "ScanTester$Circuit", "inputs", "I"), ("ScanTester$Chip", 64, "ScanTester$Circuit", "inputs", "I"), ("ScanTester", 89, "ScanTester$Circuit", "inputs", "I"), ("ScanTester$Reader", 131, "ScanTester$Circuit", "inputs", "I"), ("ScanTester$Program", 46, "ScanTester$Circuit", "flops", "I"), ("ScanTester$Chip", 47, "ScanTester$Circuit", "flops", "I"), ("ScanTester", 92, "ScanTester$Circuit", "flops", "I"), ("ScanTester$Reader", 128, "ScanTester$Circuit", "flops", "I"), ("ScanTester", 80, "ScanTester$Circuit", "nets", "I"), ("ScanTester$Choice", 76, "ScanTester$Circuit", "nets", "I"), ("ScanTester$Reader", 111, "ScanTester$Circuit", "nets", "I"), ("ScanTester", 95, "ScanTester$Circuit", "outputs", "I"), ("ScanTester$Reader", 178, "ScanTester$Circuit", "outputs", "I"), ("ScanTester$Reader", 146, "ScanTester$Circuit", "operation", "[I"), ("ScanTester$Reader", 166, "ScanTester$Circuit", "lookedCount", "[I"), ("ScanTester$Reader", 163, "ScanTester$Circuit", "looked", "[I"), ("ScanTester$Reader", 175, "ScanTester$Circuit", "output", "[I"), ("ScanTester$Reader", 172, "ScanTester$Circuit", "next", "[I"), ("ScanTester$Choice", 86, "ScanTester$Circuit", "value", "[J"), ("ScanTester", 83, "ScanTester$Reader", "fault", "I"), ("ScanTester", 86, "ScanTester$Reader", "place", "I"), ("ScanTester$Program", 61, "ScanTester$Choice", "ones", "[I"), ("ScanTester", 144, "ScanTester$Choice", "ones", "[I"), ("ScanTester$Program", 76, "ScanTester$Choice", "due", "[I"), ("ScanTester", 101, "ScanTester$Choice", "testable", "I"), ("ScanTester$Program", 28, "ScanTester$Choice", "tests", "I"), ("ScanTester", 104, "ScanTester$Choice", "tests", "I"), ("ScanTester", 177, "ScanTester$Chip", "state", "I"), ("ScanTester", 180, "ScanTester$Chip", "code", "I"), ("ScanTester", 183, "ScanTester$Chip", "held", "I"), ("ScanTester", 186, "ScanTester$Chip", "beside", "I"), ("ScanTester", 189, "ScanTester$Chip", "shifter", "I"), ("ScanTester$Choice", 119, "ScanTester$Circuit", "COLUMNS", "[J")]
def tb_LEAST_LOOKED : List Int32 := [2, 2, 2, 2, 2, 1, 1, 3]
def tb_MOST_OF_OPERATION : List Int32 := [4, 4, 4, 4, 4, 1, 1, 3]
def tb_LEAD_TDI : List Int32 := [0, 0, 0, 0, 0, 0, 0, 0, 0, 0, 1, 0, 0, 0]
def tb_LEAD_TMS : List Int32 := [1, 1, 1, 1, 1, 0, 1, 1, 0, 0, 0, 1, 1, 1]
def tb_AFTER : List Int32 := [1, 0, 1, 2, 3, 9, 4, 5, 4, 5, 6, 8, 6, 7, 4, 8, 1, 2, 10, 0, 11, 12, 11, 12, 13, 15, 13, 14, 11, 15, 1, 2]
def tb_COLUMNS : List Int64 := [-6148914691236517206, -3689348814741910324, -1085102592571150096, -71777214294589696, -281470681808896, -4294967296]
/-- a static table of ints: the field holds the array t, which holds L -/
def TbI (C n : String) (t N : Nat) (L : List Int32) (A : Nat → Prop) (U : State) (H : Heap) : Prop := va_Z C n "[I" (.ref t) A U H ∧ va_T .int t N (fun j => .int (L.getD j 0)) A U H
def TbJ (C n : String) (t N : Nat) (L : List Int64) (A : Nat → Prop) (U : State) (H : Heap) : Prop := va_Z C n "[J" (.ref t) A U H ∧ va_T .long t N (fun j => .long (L.getD j 0)) A U H
theorem TbI.step {C n : String} {t N : Nat} {L : List Int32} {A B : Nat → Prop} {s U : State} {H : Heap} (h : TbI C n t N L A s s.heap) (hq : ∀ a : Nat, a < s.heap.size → ¬ A a → H[a]? = s.heap[a]?) (hF : ∀ q, B q → A q) (hW : s.vm.Alike U.vm) : TbI C n t N L B U H := ⟨va_Z.narrow (va_Z.kept (va_Z.moved hW h.1) hq) hF, va_T.narrow (va_T.kept (va_T.moved hW h.2) hq) hF⟩
theorem TbJ.step {C n : String} {t N : Nat} {L : List Int64} {A B : Nat → Prop} {s U : State} {H : Heap} (h : TbJ C n t N L A s s.heap) (hq : ∀ a : Nat, a < s.heap.size → ¬ A a → H[a]? = s.heap[a]?) (hF : ∀ q, B q → A q) (hW : s.vm.Alike U.vm) : TbJ C n t N L B U H := ⟨va_Z.narrow (va_Z.kept (va_Z.moved hW h.1) hq) hF, va_T.narrow (va_T.kept (va_T.moved hW h.2) hq) hF⟩
theorem TbI.same {C n : String} {t N : Nat} {L : List Int32} {A : Nat → Prop} {u U : State} {H : Heap} (h : TbI C n t N L A u H) (hv : u.vm = U.vm) : TbI C n t N L A U H := ⟨va_Z.moved (by rw [hv]; exact Vm.Alike.refl _) h.1, va_T.moved (by rw [hv]; exact Vm.Alike.refl _) h.2⟩
theorem TbJ.same {C n : String} {t N : Nat} {L : List Int64} {A : Nat → Prop} {u U : State} {H : Heap} (h : TbJ C n t N L A u H) (hv : u.vm = U.vm) : TbJ C n t N L A U H := ⟨va_Z.moved (by rw [hv]; exact Vm.Alike.refl _) h.1, va_T.moved (by rw [hv]; exact Vm.Alike.refl _) h.2⟩
def lit_len : List Nat := [2, 2, 3, 32]
def lit_byt : List (List Int32) := [[105, 110], [102, 102], [111, 117, 116], [97, 110, 100, 32, 111, 114, 32, 32, 120, 111, 114, 32, 110, 97, 110, 100, 110, 111, 114, 32, 110, 111, 116, 32, 98, 117, 102, 32, 109, 117, 120, 32]]
/-- the four texts of the reader -/
def EnS (ts : Nat → Nat) (A : Nat → Prop) (U : State) (H : Heap) : Prop :=
  vk_S 4 lit_len lit_byt (fun i => ts (10 + i)) (fun i => ts (20 + i)) A U H ∧ vk_R "ScanTester$Reader" 51 "in" (ts 10) U ∧ vk_R "ScanTester$Reader" 61 "ff" (ts 11) U ∧ vk_R "ScanTester$Reader" 67 "out" (ts 12) U ∧ vk_R "ScanTester$Reader" 155 "and or  xor nandnor not buf mux " (ts 13) U ∧
  va_Z "java/lang/String" "COMPACT_STRINGS" "Z" (.int 1) A U H ∧ va_Zq "jdk/internal/util/Preconditions" "SIOOBE_FORMATTER" "Ljava/util/function/BiFunction;" A U H
theorem EnS.step {ts : Nat → Nat} {A B : Nat → Prop} {s U : State} {H : Heap} (h : EnS ts A s s.heap) (hq : ∀ a : Nat, a < s.heap.size → ¬ A a → H[a]? = s.heap[a]?) (hF : ∀ q, B q → A q) (hW : s.WarmedH U.vm) : EnS ts B U H :=
  ⟨vk_S.narrow (vk_S.kept (vk_S.moved hW.alike h.1) hq) hF, h.2.1.warm hW, h.2.2.1.warm hW, h.2.2.2.1.warm hW, h.2.2.2.2.1.warm hW, va_Z.narrow (va_Z.kept (va_Z.moved hW.alike h.2.2.2.2.2.1) hq) hF, va_Zq.narrow (va_Zq.kept (va_Zq.moved hW.alike h.2.2.2.2.2.2) hq) hF⟩
theorem EnS.same {ts : Nat → Nat} {A : Nat → Prop} {u U : State} {H : Heap} (h : EnS ts A u H) (hv : u.vm = U.vm) : EnS ts A U H :=
  have hr : u.vm.Alike U.vm := by rw [hv]; exact Vm.Alike.refl _
  ⟨vk_S.moved hr h.1, h.2.1.same hv.symm, h.2.2.1.same hv.symm, h.2.2.2.1.same hv.symm, h.2.2.2.2.1.same hv.symm, va_Z.moved hr h.2.2.2.2.2.1, va_Zq.moved hr h.2.2.2.2.2.2⟩
/-- the surroundings: links to private fields of the nest, the static tables, the texts -/
def En (ts : Nat → Nat) (A : Nat → Prop) (U : State) (H : Heap) : Prop := (∀ q ∈ nest_fs, va_Nw (.fieldLinkNest q.1 q.2.1 q.2.2.1 q.2.2.2.1 q.2.2.2.2 "ScanTester") U) ∧ TbJ "ScanTester$Circuit" "COLUMNS" (ts 0) 6 tb_COLUMNS A U H ∧ TbI "ScanTester$Reader" "LEAST_LOOKED" (ts 1) 8 tb_LEAST_LOOKED A U H ∧ TbI "ScanTester$Reader" "MOST_OF_OPERATION" (ts 2) 8 tb_MOST_OF_OPERATION A U H ∧ TbI "ScanTester$Program" "LEAD_TDI" (ts 3) 14 tb_LEAD_TDI A U H ∧ TbI "ScanTester$Program" "LEAD_TMS" (ts 4) 14 tb_LEAD_TMS A U H ∧ TbI "ScanTester$Chip" "AFTER" (ts 5) 32 tb_AFTER A U H ∧ EnS ts A U H
theorem En.step {ts : Nat → Nat} {A B : Nat → Prop} {s U : State} {H : Heap} {locs : List Loc} (h : En ts A s s.heap) (hS : va_S A s.heap H locs) (hF : ∀ q, B q → A q) (hW : s.WarmedH U.vm) : En ts B U H := ⟨fun q hq => (h.1 q hq).warmF hW, (h.2.1).step hS.2.1 hF hW.alike, (h.2.2.1).step hS.2.1 hF hW.alike, (h.2.2.2.1).step hS.2.1 hF hW.alike, (h.2.2.2.2.1).step hS.2.1 hF hW.alike, (h.2.2.2.2.2.1).step hS.2.1 hF hW.alike, (h.2.2.2.2.2.2.1).step hS.2.1 hF hW.alike, (h.2.2.2.2.2.2.2).step hS.2.1 hF hW⟩
theorem En.same {ts : Nat → Nat} {A : Nat → Prop} {u U : State} {H : Heap} (h : En ts A u H) (hv : u.vm = U.vm) : En ts A U H := ⟨fun q hq => (h.1 q hq).same rfl hv, (h.2.1).same hv, (h.2.2.1).same hv, (h.2.2.2.1).same hv, (h.2.2.2.2.1).same hv, (h.2.2.2.2.2.1).same hv, (h.2.2.2.2.2.2.1).same hv, (h.2.2.2.2.2.2.2).same hv⟩
theorem En.COLUMNS {ts : Nat → Nat} {A : Nat → Prop} {U : State} {H : Heap} (h : En ts A U H) : TbJ "ScanTester$Circuit" "COLUMNS" (ts 0) 6 tb_COLUMNS A U H := h.2.1
theorem En.LEAST_LOOKED {ts : Nat → Nat} {A : Nat → Prop} {U : State} {H : Heap} (h : En ts A U H) : TbI "ScanTester$Reader" "LEAST_LOOKED" (ts 1) 8 tb_LEAST_LOOKED A U H := h.2.2.1
theorem En.MOST_OF_OPERATION {ts : Nat → Nat} {A : Nat → Prop} {U : State} {H : Heap} (h : En ts A U H) : TbI "ScanTester$Reader" "MOST_OF_OPERATION" (ts 2) 8 tb_MOST_OF_OPERATION A U H := h.2.2.2.1
theorem En.LEAD_TDI {ts : Nat → Nat} {A : Nat → Prop} {U : State} {H : Heap} (h : En ts A U H) : TbI "ScanTester$Program" "LEAD_TDI" (ts 3) 14 tb_LEAD_TDI A U H := h.2.2.2.2.1
theorem En.LEAD_TMS {ts : Nat → Nat} {A : Nat → Prop} {U : State} {H : Heap} (h : En ts A U H) : TbI "ScanTester$Program" "LEAD_TMS" (ts 4) 14 tb_LEAD_TMS A U H := h.2.2.2.2.2.1
theorem En.AFTER {ts : Nat → Nat} {A : Nat → Prop} {U : State} {H : Heap} (h : En ts A U H) : TbI "ScanTester$Chip" "AFTER" (ts 5) 32 tb_AFTER A U H := h.2.2.2.2.2.2.1
theorem En.str {ts : Nat → Nat} {A : Nat → Prop} {U : State} {H : Heap} (h : En ts A U H) : EnS ts A U H := h.2.2.2.2.2.2.2
theorem En.nest {ts : Nat → Nat} {A : Nat → Prop} {U : State} {H : Heap} {args : Array Value} (h : En ts A U H) (k : Nat) {q : String × Nat × String × String × String} (hk : nest_fs[k]? = some q) : (Cond.fieldLinkNest q.1 q.2.1 q.2.2.1 q.2.2.2.1 q.2.2.2.2 "ScanTester").before args U = true := va_Nw.use rfl (h.1 q (List.mem_of_getElem? hk))
theorem En.n0 {ts : Nat → Nat} {A : Nat → Prop} {U : State} {H : Heap} {args : Array Value} (h : En ts A U H) : (Cond.fieldLinkNest RX3 64 "ScanTester$Circuit" "inputs" "I" "ScanTester").before args U = true := h.nest (q := ("ScanTester$Program", 64, "ScanTester$Circuit", "inputs", "I")) 0 rfl
theorem En.n1 {ts : Nat → Nat} {A : Nat → Prop} {U : State} {H : Heap} {args : Array Value} (h : En ts A U H) : (Cond.fieldLinkNest RX0 64 "ScanTester$Circuit" "inputs" "I" "ScanTester").before args U = true := h.nest (q := ("ScanTester$Chip", 64, "ScanTester$Circuit", "inputs", "I")) 1 rfl
theorem En.n2 {ts : Nat → Nat} {A : Nat → Prop} {U : State} {H : Heap} {args : Array Value} (h : En ts A U H) : (Cond.fieldLinkNest RX5 89 "ScanTester$Circuit" "inputs" "I" "ScanTester").before args U = true := h.nest (q := ("ScanTester", 89, "ScanTester$Circuit", "inputs", "I")) 2 rfl
theorem En.n3 {ts : Nat → Nat} {A : Nat → Prop} {U : State} {H : Heap} {args : Array Value} (h : En ts A U H) : (Cond.fieldLinkNest RX4 131 "ScanTester$Circuit" "inputs" "I" "ScanTester").before args U = true := h.nest (q := ("ScanTester$Reader", 131, "ScanTester$Circuit", "inputs", "I")) 3 rfl
theorem En.n4 {ts : Nat → Nat} {A : Nat → Prop} {U : State} {H : Heap} {args : Array Value} (h : En ts A U H) : (Cond.fieldLinkNest RX3 46 "ScanTester$Circuit" "flops" "I" "ScanTester").before args U = true := h.nest (q := ("ScanTester$Program", 46, "ScanTester$Circuit", "flops", "I")) 4 rfl
theorem En.n5 {ts : Nat → Nat} {A : Nat → Prop} {U : State} {H : Heap} {args : Array Value} (h : En ts A U H) : (Cond.fieldLinkNest RX0 47 "ScanTester$Circuit" "flops" "I" "ScanTester").before args U = true := h.nest (q := ("ScanTester$Chip", 47, "ScanTester$Circuit", "flops", "I")) 5 rfl
theorem En.n6 {ts : Nat → Nat} {A : Nat → Prop} {U : State} {H : Heap} {args : Array Value} (h : En ts A U H) : (Cond.fieldLinkNest RX5 92 "ScanTester$Circuit" "flops" "I" "ScanTester").before args U = true := h.nest (q := ("ScanTester", 92, "ScanTester$Circuit", "flops", "I")) 6 rfl
theorem En.n7 {ts : Nat → Nat} {A : Nat → Prop} {U : State} {H : Heap} {args : Array Value} (h : En ts A U H) : (Cond.fieldLinkNest RX4 128 "ScanTester$Circuit" "flops" "I" "ScanTester").before args U = true := h.nest (q := ("ScanTester$Reader", 128, "ScanTester$Circuit", "flops", "I")) 7 rfl
theorem En.n8 {ts : Nat → Nat} {A : Nat → Prop} {U : State} {H : Heap} {args : Array Value} (h : En ts A U H) : (Cond.fieldLinkNest RX5 80 "ScanTester$Circuit" "nets" "I" "ScanTester").before args U = true := h.nest (q := ("ScanTester", 80, "ScanTester$Circuit", "nets", "I")) 8 rfl
theorem En.n9 {ts : Nat → Nat} {A : Nat → Prop} {U : State} {H : Heap} {args : Array Value} (h : En ts A U H) : (Cond.fieldLinkNest RX1 76 "ScanTester$Circuit" "nets" "I" "ScanTester").before args U = true := h.nest (q := ("ScanTester$Choice", 76, "ScanTester$Circuit", "nets", "I")) 9 rfl
theorem En.n10 {ts : Nat → Nat} {A : Nat → Prop} {U : State} {H : Heap} {args : Array Value} (h : En ts A U H) : (Cond.fieldLinkNest RX4 111 "ScanTester$Circuit" "nets" "I" "ScanTester").before args U = true := h.nest (q := ("ScanTester$Reader", 111, "ScanTester$Circuit", "nets", "I")) 10 rfl
theorem En.n11 {ts : Nat → Nat} {A : Nat → Prop} {U : State} {H : Heap} {args : Array Value} (h : En ts A U H) : (Cond.fieldLinkNest RX5 95 "ScanTester$Circuit" "outputs" "I" "ScanTester").before args U = true := h.nest (q := ("ScanTester", 95, "ScanTester$Circuit", "outputs", "I")) 11 rfl
theorem En.n12 {ts : Nat → Nat} {A : Nat → Prop} {U : State} {H : Heap} {args : Array Value} (h : En ts A U H) : (Cond.fieldLinkNest RX4 178 "ScanTester$Circuit" "outputs" "I" "ScanTester").before args U = true := h.nest (q := ("ScanTester$Reader", 178, "ScanTester$Circuit", "outputs", "I")) 12 rfl
theorem En.n13 {ts : Nat → Nat} {A : Nat → Prop} {U : State} {H : Heap} {args : Array Value} (h : En ts A U H) : (Cond.fieldLinkNest RX4 146 "ScanTester$Circuit" "operation" "[I" "ScanTester").before args U = true := h.nest (q := ("ScanTester$Reader", 146, "ScanTester$Circuit", "operation", "[I")) 13 rfl
theorem En.n14 {ts : Nat → Nat} {A : Nat → Prop} {U : State} {H : Heap} {args : Array Value} (h : En ts A U H) : (Cond.fieldLinkNest RX4 166 "ScanTester$Circuit" "lookedCount" "[I" "ScanTester").before args U = true := h.nest (q := ("ScanTester$Reader", 166, "ScanTester$Circuit", "lookedCount", "[I")) 14 rfl
theorem En.n15 {ts : Nat → Nat} {A : Nat → Prop} {U : State} {H : Heap} {args : Array Value} (h : En ts A U H) : (Cond.fieldLinkNest RX4 163 "ScanTester$Circuit" "looked" "[I" "ScanTester").before args U = true := h.nest (q := ("ScanTester$Reader", 163, "ScanTester$Circuit", "looked", "[I")) 15 rfl
theorem En.n16 {ts : Nat → Nat} {A : Nat → Prop} {U : State} {H : Heap} {args : Array Value} (h : En ts A U H) : (Cond.fieldLinkNest RX4 175 "ScanTester$Circuit" "output" "[I" "ScanTester").before args U = true := h.nest (q := ("ScanTester$Reader", 175, "ScanTester$Circuit", "output", "[I")) 16 rfl
theorem En.n17 {ts : Nat → Nat} {A : Nat → Prop} {U : State} {H : Heap} {args : Array Value} (h : En ts A U H) : (Cond.fieldLinkNest RX4 172 "ScanTester$Circuit" "next" "[I" "ScanTester").before args U = true := h.nest (q := ("ScanTester$Reader", 172, "ScanTester$Circuit", "next", "[I")) 17 rfl
theorem En.n18 {ts : Nat → Nat} {A : Nat → Prop} {U : State} {H : Heap} {args : Array Value} (h : En ts A U H) : (Cond.fieldLinkNest RX1 86 "ScanTester$Circuit" "value" "[J" "ScanTester").before args U = true := h.nest (q := ("ScanTester$Choice", 86, "ScanTester$Circuit", "value", "[J")) 18 rfl
theorem En.n19 {ts : Nat → Nat} {A : Nat → Prop} {U : State} {H : Heap} {args : Array Value} (h : En ts A U H) : (Cond.fieldLinkNest RX5 83 "ScanTester$Reader" "fault" "I" "ScanTester").before args U = true := h.nest (q := ("ScanTester", 83, "ScanTester$Reader", "fault", "I")) 19 rfl
theorem En.n20 {ts : Nat → Nat} {A : Nat → Prop} {U : State} {H : Heap} {args : Array Value} (h : En ts A U H) : (Cond.fieldLinkNest RX5 86 "ScanTester$Reader" "place" "I" "ScanTester").before args U = true := h.nest (q := ("ScanTester", 86, "ScanTester$Reader", "place", "I")) 20 rfl
theorem En.n21 {ts : Nat → Nat} {A : Nat → Prop} {U : State} {H : Heap} {args : Array Value} (h : En ts A U H) : (Cond.fieldLinkNest RX3 61 "ScanTester$Choice" "ones" "[I" "ScanTester").before args U = true := h.nest (q := ("ScanTester$Program", 61, "ScanTester$Choice", "ones", "[I")) 21 rfl
theorem En.n22 {ts : Nat → Nat} {A : Nat → Prop} {U : State} {H : Heap} {args : Array Value} (h : En ts A U H) : (Cond.fieldLinkNest RX5 144 "ScanTester$Choice" "ones" "[I" "ScanTester").before args U = true := h.nest (q := ("ScanTester", 144, "ScanTester$Choice", "ones", "[I")) 22 rfl
theorem En.n23 {ts : Nat → Nat} {A : Nat → Prop} {U : State} {H : Heap} {args : Array Value} (h : En ts A U H) : (Cond.fieldLinkNest RX3 76 "ScanTester$Choice" "due" "[I" "ScanTester").before args U = true := h.nest (q := ("ScanTester$Program", 76, "ScanTester$Choice", "due", "[I")) 23 rfl
theorem En.n24 {ts : Nat → Nat} {A : Nat → Prop} {U : State} {H : Heap} {args : Array Value} (h : En ts A U H) : (Cond.fieldLinkNest RX5 101 "ScanTester$Choice" "testable" "I" "ScanTester").before args U = true := h.nest (q := ("ScanTester", 101, "ScanTester$Choice", "testable", "I")) 24 rfl
theorem En.n25 {ts : Nat → Nat} {A : Nat → Prop} {U : State} {H : Heap} {args : Array Value} (h : En ts A U H) : (Cond.fieldLinkNest RX3 28 "ScanTester$Choice" "tests" "I" "ScanTester").before args U = true := h.nest (q := ("ScanTester$Program", 28, "ScanTester$Choice", "tests", "I")) 25 rfl
theorem En.n26 {ts : Nat → Nat} {A : Nat → Prop} {U : State} {H : Heap} {args : Array Value} (h : En ts A U H) : (Cond.fieldLinkNest RX5 104 "ScanTester$Choice" "tests" "I" "ScanTester").before args U = true := h.nest (q := ("ScanTester", 104, "ScanTester$Choice", "tests", "I")) 26 rfl
theorem En.n27 {ts : Nat → Nat} {A : Nat → Prop} {U : State} {H : Heap} {args : Array Value} (h : En ts A U H) : (Cond.fieldLinkNest RX5 177 "ScanTester$Chip" "state" "I" "ScanTester").before args U = true := h.nest (q := ("ScanTester", 177, "ScanTester$Chip", "state", "I")) 27 rfl
theorem En.n28 {ts : Nat → Nat} {A : Nat → Prop} {U : State} {H : Heap} {args : Array Value} (h : En ts A U H) : (Cond.fieldLinkNest RX5 180 "ScanTester$Chip" "code" "I" "ScanTester").before args U = true := h.nest (q := ("ScanTester", 180, "ScanTester$Chip", "code", "I")) 28 rfl
theorem En.n29 {ts : Nat → Nat} {A : Nat → Prop} {U : State} {H : Heap} {args : Array Value} (h : En ts A U H) : (Cond.fieldLinkNest RX5 183 "ScanTester$Chip" "held" "I" "ScanTester").before args U = true := h.nest (q := ("ScanTester", 183, "ScanTester$Chip", "held", "I")) 29 rfl
theorem En.n30 {ts : Nat → Nat} {A : Nat → Prop} {U : State} {H : Heap} {args : Array Value} (h : En ts A U H) : (Cond.fieldLinkNest RX5 186 "ScanTester$Chip" "beside" "I" "ScanTester").before args U = true := h.nest (q := ("ScanTester", 186, "ScanTester$Chip", "beside", "I")) 30 rfl
theorem En.n31 {ts : Nat → Nat} {A : Nat → Prop} {U : State} {H : Heap} {args : Array Value} (h : En ts A U H) : (Cond.fieldLinkNest RX5 189 "ScanTester$Chip" "shifter" "I" "ScanTester").before args U = true := h.nest (q := ("ScanTester", 189, "ScanTester$Chip", "shifter", "I")) 31 rfl
theorem En.n32 {ts : Nat → Nat} {A : Nat → Prop} {U : State} {H : Heap} {args : Array Value} (h : En ts A U H) : (Cond.fieldLinkNest RX1 119 "ScanTester$Circuit" "COLUMNS" "[J" "ScanTester").before args U = true := h.nest (q := ("ScanTester$Choice", 119, "ScanTester$Circuit", "COLUMNS", "[J")) 32 rfl
abbrev cPre (D : va_G) (ts : Nat → Nat) (tys : List (ClassId × FieldType)) (ws : va_W) (sz : Nat) : State → Prop := fun U => U.heap.size = sz ∧ va_P D vwCl ws U.heap ∧ va_K D vwCl tys U ∧ va_D (fun _ => True) ws ∧ En ts (va_A ws sz) U U.heap
abbrev cPost {S : Type} (D : va_G) (tys : List (ClassId × FieldType)) (wf : S → va_W) (A : Nat → Prop) : S → State → Prop := fun u t => va_P D vwCl (wf u) t.heap ∧ va_K D vwCl tys t ∧ va_D A (wf u)
theorem cPre_blind {D : va_G} {ts : Nat → Nat} {tys : List (ClassId × FieldType)} {ws : va_W} {sz : Nat} {av : List Value} : FrameBlind (va_Pc av (cPre D ts tys ws sz)) := fun a U g mk q => by
  obtain ⟨q0, q1, qP, qK, qD, qE⟩ := q
  exact ⟨q0, q1, qP, va_K.moved (u := U) (U := U.calling g mk a) (Vm.Alike.refl U.vm) qK, qD, qE.same (U := U.calling g mk a) rfl⟩
theorem cPre_at {D : va_G} {ts : Nat → Nat} {tys : List (ClassId × FieldType)} {wc : va_W} {A A0 : Nat → Prop} {s : State} {H : Heap} {locs : List Loc} (av : List Value) (hP : va_P D vwCl wc H) (hK : va_K D vwCl tys s) (hD : va_D A0 wc) (hE : En ts A s s.heap) (hS : va_S A s.heap H locs) (hF : ∀ q, va_A wc H.size q → A q) :
    ∀ U : State, U.heap = H → s.WarmedH U.vm → va_Pc av (cPre D ts tys wc H.size) av.toArray U := fun U hU hW => ⟨rfl, by rw [hU], by rw [hU]; exact hP, va_K.moved hW.alike hK, hD.weaken (fun _ _ _ _ => trivial), by rw [hU]; exact hE.step hS hF hW⟩
theorem sub_at {ws wc : va_W} {isC : List Nat} (hC : isC.map (fun i => ws[i]?) = wc.map some) : ∀ (k : Nat) (q : Nat × va_E), wc[k]? = some q → ∃ i : Nat, ws[i]? = some q := by
  intro k q hq
  have h1 : (isC.map (fun i => ws[i]?))[k]? = some (some q) := by rw [hC, List.getElem?_map, hq]; rfl
  rw [List.getElem?_map] at h1
  cases hi : isC[k]? with
  | none => rw [hi] at h1; cases h1
  | some i => rw [hi] at h1; exact ⟨i, Option.some.inj h1⟩
theorem sub_P {D : va_G} {ws wc : va_W} {H : Heap} (hP : va_P D vwCl ws H) {isC : List Nat} (hC : isC.map (fun i => ws[i]?) = wc.map some) : va_P D vwCl wc H := fun k q hk => by
  obtain ⟨i, hi⟩ := sub_at hC k q hk
  exact hP i q hi
section KCALL
variable {p : Program} {l : Launch} {e : Env} {R : Room} {s : State} {m : MethodId} {args : Array Value} {below : List Frame} {meth : Method} {c : Code} {H : Heap} {locs : List Loc} {cells slots : Nat} {Q : State → Prop}
variable {D : va_G} {ts : Nat → Nat} {tys : List (ClassId × FieldType)} {A : Nat → Prop} {ws wc wr : va_W} {pc : Nat} {ls : Array Slot} {cc : ByteArray} {nL : Nat} {own C : String} {Ts wsc : List Cond} {index maxL n b : Nat} {y : MethodName} {bytes : ByteArray} {ret : Option FieldType} {rm : Room} {As rest st0 : List Value}
theorem kV_i {S : Type} {post : Int32 → S → Prop} {wf : S → va_W} (F : CallFix p m c cc nL s args Ts own) (hP : va_P D vwCl ws H) (hD : va_D A ws) (hK : va_K D vwCl tys s) (hE : En ts A s s.heap) (hS : va_S A s.heap H locs) (hA : ∀ q, s.heap.size ≤ q → A q) (isC isR : List Nat) (hC : isC.map (fun i => ws[i]?) = wc.map some) (hR : isR.map (fun i => ws[i]?) = wr.map some) (hnC : va_nd isC = true) (hn : va_nd isR = true) (hdis : ∀ i ∈ isR, i ∉ isC)
    (hM : Met l y wsc rm (va_Pc (.ref b :: As) (cPre D ts tys wc H.size)) (va_Qi post (cPost D tys wf (va_A wc H.size)) (va_A wc H.size)) 0 0 (va_A wc H.size)) (cw : CallW R s args own C index y bytes maxL ret wsc rm 0 0 n) {ci : Nat} {fs : List Value} {qc : vw_C} (hci : vwCl[ci]? = some qc) (hqc : qc.1 = C) (he : wc[0]? = some (b, .inr (ci, fs))) (hsz : ls.size = nL) (hnn : As.length = n) (hcells : cells ≤ R.cells) (hslots : slots ≤ R.slots) (hst : st0 = As.reverse ++ .ref b :: rest) (hroom : (rest.map fun v => v.category).sum ≤ 8) (hdg : decode cc pc = .ok (.invokevirtual index, 3))
    (kk : ∀ (r : Int32) (u : S) (H1 : Heap) (locs1 : List Loc), post r u → va_P D vwCl (wr ++ wf u) H1 → va_D A (wr ++ wf u) → va_S A s.heap H1 locs1 → W p l e R s m args below meth c H1 locs1 cells slots Q (F0 m (pc + 3) ls (.int r :: rest))) : W p l e R s m args below meth c H locs cells slots Q (F0 m pc ls st0) := by
  have hPc := sub_P hP hC
  have hDc := hD.sub isC hnC hC
  have hFc := va_free hD hS hA isC hC
  refine va_calli (va_runV (As := As) (rest := rest) F hM cw ⟨cPre_blind, hqc ▸ va_recv hK hPc hci he, cPre_at (.ref b :: As) hPc hK hDc hE hS hFc⟩ rfl hnn hsz hst (lv_room hroom) hdg ⟨hcells, hslots⟩) hS (fun q _ h => hFc q h) hFc (fun r u t H1 locs1 ht hvm hw hB hz1 hk1 hS1 => ?_)
  obtain ⟨hP1, hK1, hD1⟩ := hB
  rw [ht] at hP1
  obtain ⟨hP2, hD2⟩ := va_join hP hD isC isR hC hR hn hdis hk1 hFc hP1 hD1
  exact kk r u H1 locs1 hw hP2 hD2 hS1
theorem kS_i {S : Type} {post : Int32 → S → Prop} {wf : S → va_W} (F : CallFix p m c cc nL s args Ts own) (hP : va_P D vwCl ws H) (hD : va_D A ws) (hK : va_K D vwCl tys s) (hE : En ts A s s.heap) (hS : va_S A s.heap H locs) (hA : ∀ q, s.heap.size ≤ q → A q) (isC isR : List Nat) (hC : isC.map (fun i => ws[i]?) = wc.map some) (hR : isR.map (fun i => ws[i]?) = wr.map some) (hnC : va_nd isC = true) (hn : va_nd isR = true) (hdis : ∀ i ∈ isR, i ∉ isC)
    (hM : Met l y wsc rm (va_Pc As (cPre D ts tys wc H.size)) (va_Qi post (cPost D tys wf (va_A wc H.size)) (va_A wc H.size)) 0 0 (va_A wc H.size)) (cw : CallB R s args own index y bytes maxL ret wsc rm 0 0 n ∧ (Cond.static y).before args s = true) (hsz : ls.size = nL) (hnn : As.length = n) (hcells : cells ≤ R.cells) (hslots : slots ≤ R.slots) (hst : st0 = As.reverse ++ rest) (hroom : (rest.map fun v => v.category).sum ≤ 8) (hdg : decode cc pc = .ok (.invokestatic index, 3))
    (kk : ∀ (r : Int32) (u : S) (H1 : Heap) (locs1 : List Loc), post r u → va_P D vwCl (wr ++ wf u) H1 → va_D A (wr ++ wf u) → va_S A s.heap H1 locs1 → W p l e R s m args below meth c H1 locs1 cells slots Q (F0 m (pc + 3) ls (.int r :: rest))) : W p l e R s m args below meth c H locs cells slots Q (F0 m pc ls st0) := by
  have hPc := sub_P hP hC
  have hDc := hD.sub isC hnC hC
  have hFc := va_free hD hS hA isC hC
  refine va_calli (va_runS (As := As) (rest := rest) F hM cw ⟨cPre_blind, cPre_at As hPc hK hDc hE hS hFc⟩ rfl hnn hsz hst (lv_room hroom) hdg ⟨hcells, hslots⟩) hS (fun q _ h => hFc q h) hFc (fun r u t H1 locs1 ht hvm hw hB hz1 hk1 hS1 => ?_)
  obtain ⟨hP1, hK1, hD1⟩ := hB
  rw [ht] at hP1
  obtain ⟨hP2, hD2⟩ := va_join hP hD isC isR hC hR hn hdis hk1 hFc hP1 hD1
  exact kk r u H1 locs1 hw hP2 hD2 hS1
theorem kV_l {S : Type} {post : Int64 → S → Prop} {wf : S → va_W} (F : CallFix p m c cc nL s args Ts own) (hP : va_P D vwCl ws H) (hD : va_D A ws) (hK : va_K D vwCl tys s) (hE : En ts A s s.heap) (hS : va_S A s.heap H locs) (hA : ∀ q, s.heap.size ≤ q → A q) (isC isR : List Nat) (hC : isC.map (fun i => ws[i]?) = wc.map some) (hR : isR.map (fun i => ws[i]?) = wr.map some) (hnC : va_nd isC = true) (hn : va_nd isR = true) (hdis : ∀ i ∈ isR, i ∉ isC)
    (hM : Met l y wsc rm (va_Pc (.ref b :: As) (cPre D ts tys wc H.size)) (va_Ql post (cPost D tys wf (va_A wc H.size)) (va_A wc H.size)) 0 0 (va_A wc H.size)) (cw : CallW R s args own C index y bytes maxL ret wsc rm 0 0 n) {ci : Nat} {fs : List Value} {qc : vw_C} (hci : vwCl[ci]? = some qc) (hqc : qc.1 = C) (he : wc[0]? = some (b, .inr (ci, fs))) (hsz : ls.size = nL) (hnn : As.length = n) (hcells : cells ≤ R.cells) (hslots : slots ≤ R.slots) (hst : st0 = As.reverse ++ .ref b :: rest) (hroom : (rest.map fun v => v.category).sum ≤ 8) (hdg : decode cc pc = .ok (.invokevirtual index, 3))
    (kk : ∀ (r : Int64) (u : S) (H1 : Heap) (locs1 : List Loc), post r u → va_P D vwCl (wr ++ wf u) H1 → va_D A (wr ++ wf u) → va_S A s.heap H1 locs1 → W p l e R s m args below meth c H1 locs1 cells slots Q (F0 m (pc + 3) ls (.long r :: rest))) : W p l e R s m args below meth c H locs cells slots Q (F0 m pc ls st0) := by
  have hPc := sub_P hP hC
  have hDc := hD.sub isC hnC hC
  have hFc := va_free hD hS hA isC hC
  refine va_calll (va_runV (As := As) (rest := rest) F hM cw ⟨cPre_blind, hqc ▸ va_recv hK hPc hci he, cPre_at (.ref b :: As) hPc hK hDc hE hS hFc⟩ rfl hnn hsz hst (lv_room hroom) hdg ⟨hcells, hslots⟩) hS (fun q _ h => hFc q h) hFc (fun r u t H1 locs1 ht hvm hw hB hz1 hk1 hS1 => ?_)
  obtain ⟨hP1, hK1, hD1⟩ := hB
  rw [ht] at hP1
  obtain ⟨hP2, hD2⟩ := va_join hP hD isC isR hC hR hn hdis hk1 hFc hP1 hD1
  exact kk r u H1 locs1 hw hP2 hD2 hS1
theorem kS_l {S : Type} {post : Int64 → S → Prop} {wf : S → va_W} (F : CallFix p m c cc nL s args Ts own) (hP : va_P D vwCl ws H) (hD : va_D A ws) (hK : va_K D vwCl tys s) (hE : En ts A s s.heap) (hS : va_S A s.heap H locs) (hA : ∀ q, s.heap.size ≤ q → A q) (isC isR : List Nat) (hC : isC.map (fun i => ws[i]?) = wc.map some) (hR : isR.map (fun i => ws[i]?) = wr.map some) (hnC : va_nd isC = true) (hn : va_nd isR = true) (hdis : ∀ i ∈ isR, i ∉ isC)
    (hM : Met l y wsc rm (va_Pc As (cPre D ts tys wc H.size)) (va_Ql post (cPost D tys wf (va_A wc H.size)) (va_A wc H.size)) 0 0 (va_A wc H.size)) (cw : CallB R s args own index y bytes maxL ret wsc rm 0 0 n ∧ (Cond.static y).before args s = true) (hsz : ls.size = nL) (hnn : As.length = n) (hcells : cells ≤ R.cells) (hslots : slots ≤ R.slots) (hst : st0 = As.reverse ++ rest) (hroom : (rest.map fun v => v.category).sum ≤ 8) (hdg : decode cc pc = .ok (.invokestatic index, 3))
    (kk : ∀ (r : Int64) (u : S) (H1 : Heap) (locs1 : List Loc), post r u → va_P D vwCl (wr ++ wf u) H1 → va_D A (wr ++ wf u) → va_S A s.heap H1 locs1 → W p l e R s m args below meth c H1 locs1 cells slots Q (F0 m (pc + 3) ls (.long r :: rest))) : W p l e R s m args below meth c H locs cells slots Q (F0 m pc ls st0) := by
  have hPc := sub_P hP hC
  have hDc := hD.sub isC hnC hC
  have hFc := va_free hD hS hA isC hC
  refine va_calll (va_runS (As := As) (rest := rest) F hM cw ⟨cPre_blind, cPre_at As hPc hK hDc hE hS hFc⟩ rfl hnn hsz hst (lv_room hroom) hdg ⟨hcells, hslots⟩) hS (fun q _ h => hFc q h) hFc (fun r u t H1 locs1 ht hvm hw hB hz1 hk1 hS1 => ?_)
  obtain ⟨hP1, hK1, hD1⟩ := hB
  rw [ht] at hP1
  obtain ⟨hP2, hD2⟩ := va_join hP hD isC isR hC hR hn hdis hk1 hFc hP1 hD1
  exact kk r u H1 locs1 hw hP2 hD2 hS1
theorem kV_v {S : Type} {post : S → Prop} {wf : S → va_W} (F : CallFix p m c cc nL s args Ts own) (hP : va_P D vwCl ws H) (hD : va_D A ws) (hK : va_K D vwCl tys s) (hE : En ts A s s.heap) (hS : va_S A s.heap H locs) (hA : ∀ q, s.heap.size ≤ q → A q) (isC isR : List Nat) (hC : isC.map (fun i => ws[i]?) = wc.map some) (hR : isR.map (fun i => ws[i]?) = wr.map some) (hnC : va_nd isC = true) (hn : va_nd isR = true) (hdis : ∀ i ∈ isR, i ∉ isC)
    (hM : Met l y wsc rm (va_Pc (.ref b :: As) (cPre D ts tys wc H.size)) (va_Qv post (cPost D tys wf (va_A wc H.size)) (va_A wc H.size)) 0 0 (va_A wc H.size)) (cw : CallW R s args own C index y bytes maxL ret wsc rm 0 0 n) {ci : Nat} {fs : List Value} {qc : vw_C} (hci : vwCl[ci]? = some qc) (hqc : qc.1 = C) (he : wc[0]? = some (b, .inr (ci, fs))) (hsz : ls.size = nL) (hnn : As.length = n) (hcells : cells ≤ R.cells) (hslots : slots ≤ R.slots) (hst : st0 = As.reverse ++ .ref b :: rest) (hroom : (rest.map fun v => v.category).sum ≤ 8) (hdg : decode cc pc = .ok (.invokevirtual index, 3))
    (kk : ∀ (u : S) (H1 : Heap) (locs1 : List Loc), post u → va_P D vwCl (wr ++ wf u) H1 → va_D A (wr ++ wf u) → va_S A s.heap H1 locs1 → W p l e R s m args below meth c H1 locs1 cells slots Q (F0 m (pc + 3) ls (rest))) : W p l e R s m args below meth c H locs cells slots Q (F0 m pc ls st0) := by
  have hPc := sub_P hP hC
  have hDc := hD.sub isC hnC hC
  have hFc := va_free hD hS hA isC hC
  refine va_callv (va_runV (As := As) (rest := rest) F hM cw ⟨cPre_blind, hqc ▸ va_recv hK hPc hci he, cPre_at (.ref b :: As) hPc hK hDc hE hS hFc⟩ rfl hnn hsz hst (lv_room hroom) hdg ⟨hcells, hslots⟩) hS (fun q _ h => hFc q h) hFc (fun u t H1 locs1 ht hvm hw hB hz1 hk1 hS1 => ?_)
  obtain ⟨hP1, hK1, hD1⟩ := hB
  rw [ht] at hP1
  obtain ⟨hP2, hD2⟩ := va_join hP hD isC isR hC hR hn hdis hk1 hFc hP1 hD1
  exact kk u H1 locs1 hw hP2 hD2 hS1
theorem kS_v {S : Type} {post : S → Prop} {wf : S → va_W} (F : CallFix p m c cc nL s args Ts own) (hP : va_P D vwCl ws H) (hD : va_D A ws) (hK : va_K D vwCl tys s) (hE : En ts A s s.heap) (hS : va_S A s.heap H locs) (hA : ∀ q, s.heap.size ≤ q → A q) (isC isR : List Nat) (hC : isC.map (fun i => ws[i]?) = wc.map some) (hR : isR.map (fun i => ws[i]?) = wr.map some) (hnC : va_nd isC = true) (hn : va_nd isR = true) (hdis : ∀ i ∈ isR, i ∉ isC)
    (hM : Met l y wsc rm (va_Pc As (cPre D ts tys wc H.size)) (va_Qv post (cPost D tys wf (va_A wc H.size)) (va_A wc H.size)) 0 0 (va_A wc H.size)) (cw : CallB R s args own index y bytes maxL ret wsc rm 0 0 n ∧ (Cond.static y).before args s = true) (hsz : ls.size = nL) (hnn : As.length = n) (hcells : cells ≤ R.cells) (hslots : slots ≤ R.slots) (hst : st0 = As.reverse ++ rest) (hroom : (rest.map fun v => v.category).sum ≤ 8) (hdg : decode cc pc = .ok (.invokestatic index, 3))
    (kk : ∀ (u : S) (H1 : Heap) (locs1 : List Loc), post u → va_P D vwCl (wr ++ wf u) H1 → va_D A (wr ++ wf u) → va_S A s.heap H1 locs1 → W p l e R s m args below meth c H1 locs1 cells slots Q (F0 m (pc + 3) ls (rest))) : W p l e R s m args below meth c H locs cells slots Q (F0 m pc ls st0) := by
  have hPc := sub_P hP hC
  have hDc := hD.sub isC hnC hC
  have hFc := va_free hD hS hA isC hC
  refine va_callv (va_runS (As := As) (rest := rest) F hM cw ⟨cPre_blind, cPre_at As hPc hK hDc hE hS hFc⟩ rfl hnn hsz hst (lv_room hroom) hdg ⟨hcells, hslots⟩) hS (fun q _ h => hFc q h) hFc (fun u t H1 locs1 ht hvm hw hB hz1 hk1 hS1 => ?_)
  obtain ⟨hP1, hK1, hD1⟩ := hB
  rw [ht] at hP1
  obtain ⟨hP2, hD2⟩ := va_join hP hD isC isR hC hR hn hdis hk1 hFc hP1 hD1
  exact kk u H1 locs1 hw hP2 hD2 hS1
end KCALL
theorem kEnter_i {l : Launch} {y : MethodName} {ws ws' : List Cond} {rm : Room} {D : va_G} {ts : Nat → Nat} {tys : List (ClassId × FieldType)} {w0 : va_W} {sz : Nat} {av : List Value} {cc : ByteArray} {maxL : Nat} {S : Type} {post : Int32 → S → Prop} {wf : S → va_W} (hy : plainName y.cls = true) (hw : ws = Cond.code y cc maxL (some .int) :: ws') (hle : (lg_sl av).length ≤ maxL)
    (body : ∀ (p : Program) (e : Env) (s : State) (m : MethodId) (args : Array Value) (below : List Frame) (meth : Method) (c : Code) (A : Nat → Prop) (ls : Array Slot) (QQ : State → Prop), p.tables.exec = Jvm.exec → c.code = cc → c.maxLocals = maxL → s.vm.findClass y.cls = some m.cls → (∀ w ∈ ws, w.before args s = true) → s.heap.size = sz → (∀ q, s.heap.size ≤ q → A q) → va_P D vwCl w0 s.heap → va_D A w0 → va_K D vwCl tys s → En ts A s s.heap → va_S A s.heap s.heap [] → lv_has ls maxL (lv_args 0 av) →
      (∀ (v : Int32) (u : S) (H : Heap) (locs : List Loc) (ls : Array Slot) (pc : Nat), post v u → va_P D vwCl (wf u) H → va_D A (wf u) → va_S A s.heap H locs → decode cc pc = .ok (.ireturn, 1) → W p l e rm s m args below meth c H locs 0 0 QQ (F0 m pc ls [.int v])) →
      W p l e rm s m args below meth c s.heap [] 0 0 QQ (F0 m 0 ls [])) :
    Met l y ws rm (va_Pc av (cPre D ts tys w0 sz)) (va_Qi post (cPost D tys wf (va_A w0 sz)) (va_A w0 sz)) 0 0 (va_A w0 sz) := by
  refine Met.ofW (cc := cc) (maxL := maxL) (ret := some .int) hy hw ?_
  intro p e s m args below meth c s₁ B hml hv
  obtain ⟨hargs, hsz, hP, hK, hD0, hE⟩ := hv
  have hx := B.exec
  have hb := B.bytes
  have hr := B.returns
  have hts := atoms_spec (ws := ws) B.pre
  have hown : s.vm.findClass y.cls = some m.cls := findClass_of_methodNamed B.named
  have hlocks := B.notSynchronized
  subst hsz
  have hD := hD0.self (sz := s.heap.size)
  generalize hAe : va_A w0 s.heap.size = A at hD hE ⊢
  have hA : ∀ q : Nat, s.heap.size ≤ q → A q := fun q h => by rw [← hAe]; exact Or.inr h
  have hl := lv_entry av (n := maxL) hle
  have hent : entryFrame m args maxL = entryFrame m av.toArray maxL := by rw [hargs]
  rw [hent, lg_entry_eq]
  exact body p e s m args below meth c A _ _ hx hb hml hown hts rfl hA hP hD hK hE va_S.rf hl (fun v u H locs ls pc hq hP hD hS hdg => W.iret hx hb hr (fun t ht hW => ⟨⟨v , u, rfl, hq, by rw [ht]; exact hP, va_K.moved hW.alike hK, hD⟩, hS.F ht⟩) hS.2.2 hdg)
theorem kEnter_l {l : Launch} {y : MethodName} {ws ws' : List Cond} {rm : Room} {D : va_G} {ts : Nat → Nat} {tys : List (ClassId × FieldType)} {w0 : va_W} {sz : Nat} {av : List Value} {cc : ByteArray} {maxL : Nat} {S : Type} {post : Int64 → S → Prop} {wf : S → va_W} (hy : plainName y.cls = true) (hw : ws = Cond.code y cc maxL (some .long) :: ws') (hle : (lg_sl av).length ≤ maxL)
    (body : ∀ (p : Program) (e : Env) (s : State) (m : MethodId) (args : Array Value) (below : List Frame) (meth : Method) (c : Code) (A : Nat → Prop) (ls : Array Slot) (QQ : State → Prop), p.tables.exec = Jvm.exec → c.code = cc → c.maxLocals = maxL → s.vm.findClass y.cls = some m.cls → (∀ w ∈ ws, w.before args s = true) → s.heap.size = sz → (∀ q, s.heap.size ≤ q → A q) → va_P D vwCl w0 s.heap → va_D A w0 → va_K D vwCl tys s → En ts A s s.heap → va_S A s.heap s.heap [] → lv_has ls maxL (lv_args 0 av) →
      (∀ (v : Int64) (u : S) (H : Heap) (locs : List Loc) (ls : Array Slot) (pc : Nat), post v u → va_P D vwCl (wf u) H → va_D A (wf u) → va_S A s.heap H locs → decode cc pc = .ok (.lreturn, 1) → W p l e rm s m args below meth c H locs 0 0 QQ (F0 m pc ls [.long v])) →
      W p l e rm s m args below meth c s.heap [] 0 0 QQ (F0 m 0 ls [])) :
    Met l y ws rm (va_Pc av (cPre D ts tys w0 sz)) (va_Ql post (cPost D tys wf (va_A w0 sz)) (va_A w0 sz)) 0 0 (va_A w0 sz) := by
  refine Met.ofW (cc := cc) (maxL := maxL) (ret := some .long) hy hw ?_
  intro p e s m args below meth c s₁ B hml hv
  obtain ⟨hargs, hsz, hP, hK, hD0, hE⟩ := hv
  have hx := B.exec
  have hb := B.bytes
  have hr := B.returns
  have hts := atoms_spec (ws := ws) B.pre
  have hown : s.vm.findClass y.cls = some m.cls := findClass_of_methodNamed B.named
  have hlocks := B.notSynchronized
  subst hsz
  have hD := hD0.self (sz := s.heap.size)
  generalize hAe : va_A w0 s.heap.size = A at hD hE ⊢
  have hA : ∀ q : Nat, s.heap.size ≤ q → A q := fun q h => by rw [← hAe]; exact Or.inr h
  have hl := lv_entry av (n := maxL) hle
  have hent : entryFrame m args maxL = entryFrame m av.toArray maxL := by rw [hargs]
  rw [hent, lg_entry_eq]
  exact body p e s m args below meth c A _ _ hx hb hml hown hts rfl hA hP hD hK hE va_S.rf hl (fun v u H locs ls pc hq hP hD hS hdg => W.lret hx hb hr (fun t ht hW => ⟨⟨v , u, rfl, hq, by rw [ht]; exact hP, va_K.moved hW.alike hK, hD⟩, hS.F ht⟩) hS.2.2 hdg)
theorem kEnter_v {l : Launch} {y : MethodName} {ws ws' : List Cond} {rm : Room} {D : va_G} {ts : Nat → Nat} {tys : List (ClassId × FieldType)} {w0 : va_W} {sz : Nat} {av : List Value} {cc : ByteArray} {maxL : Nat} {S : Type} {post : S → Prop} {wf : S → va_W} (hy : plainName y.cls = true) (hw : ws = Cond.code y cc maxL (none) :: ws') (hle : (lg_sl av).length ≤ maxL)
    (body : ∀ (p : Program) (e : Env) (s : State) (m : MethodId) (args : Array Value) (below : List Frame) (meth : Method) (c : Code) (A : Nat → Prop) (ls : Array Slot) (QQ : State → Prop), p.tables.exec = Jvm.exec → c.code = cc → c.maxLocals = maxL → s.vm.findClass y.cls = some m.cls → (∀ w ∈ ws, w.before args s = true) → s.heap.size = sz → (∀ q, s.heap.size ≤ q → A q) → va_P D vwCl w0 s.heap → va_D A w0 → va_K D vwCl tys s → En ts A s s.heap → va_S A s.heap s.heap [] → lv_has ls maxL (lv_args 0 av) →
      (∀ (u : S) (H : Heap) (locs : List Loc) (ls : Array Slot) (pc : Nat), post u → va_P D vwCl (wf u) H → va_D A (wf u) → va_S A s.heap H locs → decode cc pc = .ok (.return_, 1) → W p l e rm s m args below meth c H locs 0 0 QQ (F0 m pc ls [])) →
      W p l e rm s m args below meth c s.heap [] 0 0 QQ (F0 m 0 ls [])) :
    Met l y ws rm (va_Pc av (cPre D ts tys w0 sz)) (va_Qv post (cPost D tys wf (va_A w0 sz)) (va_A w0 sz)) 0 0 (va_A w0 sz) := by
  refine Met.ofW (cc := cc) (maxL := maxL) (ret := none) hy hw ?_
  intro p e s m args below meth c s₁ B hml hv
  obtain ⟨hargs, hsz, hP, hK, hD0, hE⟩ := hv
  have hx := B.exec
  have hb := B.bytes
  have hr := B.returns
  have hts := atoms_spec (ws := ws) B.pre
  have hown : s.vm.findClass y.cls = some m.cls := findClass_of_methodNamed B.named
  have hlocks := B.notSynchronized
  subst hsz
  have hD := hD0.self (sz := s.heap.size)
  generalize hAe : va_A w0 s.heap.size = A at hD hE ⊢
  have hA : ∀ q : Nat, s.heap.size ≤ q → A q := fun q h => by rw [← hAe]; exact Or.inr h
  have hl := lv_entry av (n := maxL) hle
  have hent : entryFrame m args maxL = entryFrame m av.toArray maxL := by rw [hargs]
  rw [hent, lg_entry_eq]
  exact body p e s m args below meth c A _ _ hx hb hml hown hts rfl hA hP hD hK hE va_S.rf hl (fun u H locs ls pc hq hP hD hS hdg => W.vret hx hb hr (fun t ht hW => ⟨⟨u, rfl, hq, by rw [ht]; exact hP, va_K.moved hW.alike hK, hD⟩, hS.F ht⟩) hS.2.2 hdg)
theorem kEnter_z {l : Launch} {y : MethodName} {ws ws' : List Cond} {rm : Room} {D : va_G} {ts : Nat → Nat} {tys : List (ClassId × FieldType)} {w0 : va_W} {sz : Nat} {av : List Value} {cc : ByteArray} {maxL : Nat} {ty : FieldType} {S : Type} {post : Int32 → S → Prop} {wf : S → va_W} (hy : plainName y.cls = true) (hw : ws = Cond.code y cc maxL (some ty) :: ws') (hle : (lg_sl av).length ≤ maxL)
    (body : ∀ (p : Program) (e : Env) (s : State) (m : MethodId) (args : Array Value) (below : List Frame) (meth : Method) (c : Code) (A : Nat → Prop) (ls : Array Slot) (QQ : State → Prop), p.tables.exec = Jvm.exec → c.code = cc → c.maxLocals = maxL → s.vm.findClass y.cls = some m.cls → (∀ w ∈ ws, w.before args s = true) → s.heap.size = sz → (∀ q, s.heap.size ≤ q → A q) → va_P D vwCl w0 s.heap → va_D A w0 → va_K D vwCl tys s → En ts A s s.heap → va_S A s.heap s.heap [] → lv_has ls maxL (lv_args 0 av) →
      (∀ (v : Int32) (u : S) (H : Heap) (locs : List Loc) (ls : Array Slot) (pc : Nat), narrow ty (.int v) = .int v → post v u → va_P D vwCl (wf u) H → va_D A (wf u) → va_S A s.heap H locs → decode cc pc = .ok (.ireturn, 1) → W p l e rm s m args below meth c H locs 0 0 QQ (F0 m pc ls [.int v])) →
      W p l e rm s m args below meth c s.heap [] 0 0 QQ (F0 m 0 ls [])) :
    Met l y ws rm (va_Pc av (cPre D ts tys w0 sz)) (va_Qi post (cPost D tys wf (va_A w0 sz)) (va_A w0 sz)) 0 0 (va_A w0 sz) := by
  refine Met.ofW (cc := cc) (maxL := maxL) (ret := some ty) hy hw ?_
  intro p e s m args below meth c s₁ B hml hv
  obtain ⟨hargs, hsz, hP, hK, hD0, hE⟩ := hv
  have hx := B.exec
  have hb := B.bytes
  have hr := B.returns
  have hts := atoms_spec (ws := ws) B.pre
  have hown : s.vm.findClass y.cls = some m.cls := findClass_of_methodNamed B.named
  have hlocks := B.notSynchronized
  subst hsz
  have hD := hD0.self (sz := s.heap.size)
  generalize hAe : va_A w0 s.heap.size = A at hD hE ⊢
  have hA : ∀ q : Nat, s.heap.size ≤ q → A q := fun q h => by rw [← hAe]; exact Or.inr h
  have hl := lv_entry av (n := maxL) hle
  have hent : entryFrame m args maxL = entryFrame m av.toArray maxL := by rw [hargs]
  rw [hent, lg_entry_eq]
  exact body p e s m args below meth c A _ _ hx hb hml hown hts rfl hA hP hD hK hE va_S.rf hl (fun v u H locs ls pc hn hq hP hD hS hdg => W.zret hx hb hr hn (fun t ht hW => ⟨⟨v , u, rfl, hq, by rw [ht]; exact hP, va_K.moved hW.alike hK, hD⟩, hS.F ht⟩) hS.2.2 hdg)
