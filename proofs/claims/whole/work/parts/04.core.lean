/-! the abstract machine's words: values, memory, its tie to the heap, and the judgement AZ (a walk from a frame) -/
abbrev VV : Type := Int ⊕ (Int ⊕ Int)
abbrev vI (x : Int) : VV := Sum.inl x
abbrev vL (x : Int) : VV := Sum.inr (Sum.inl x)
abbrev vR (a : Int) : VV := Sum.inr (Sum.inr a)
def inI (x : Int) : Prop := -2147483648 ≤ x ∧ x < 2147483648
def inL (x : Int) : Prop := -9223372036854775808 ≤ x ∧ x < 9223372036854775808
def okV (v : VV) : Prop := match v with
  | Sum.inl x => inI x
  | Sum.inr (Sum.inl x) => inL x
  | Sum.inr (Sum.inr a) => inI a
abbrev Hp : Type := Int → Int → Int
def wr (h : Hp) (a k v : Int) : Hp := fun b j => if b = a ∧ j = k then v else h b j
def nw (h : Hp) (c n : Int) : Hp := fun b j => if b = h 0 0 + 1 then (if j = -1 then c else if j = -2 then n else 0) else if b = 0 ∧ j = 0 then h 0 0 + 1 else h b j
/-- launch, class numbers and slots, array classes, base, cells of before (script, texts), byte rows of the texts, script -/
abbrev GG : Type := Launch × ((Nat → ClassId) × (Nat → Nat → Nat)) × (Int → ClassId) × Nat × (Int → Nat) × (Nat × (Nat → Int32))
abbrev gB (G : GG) : Nat := G.2.2.2.1
abbrev gY (G : GG) : Int → ClassId := G.2.2.1
abbrev gN (G : GG) : Int → Nat := G.2.2.2.2.1
abbrev gA (G : GG) : Nat → Prop := fun q => gB G < q
def adr (G : GG) (a : Int) : Nat := if a < 0 then gN G a else gB G + a.toNat
def rfo (G : GG) (a : Int) : Option Nat := if a = 0 then none else some (adr G a)
def cv (G : GG) (v : VV) : Value := match v with
  | Sum.inl x => .int (Int32.ofInt x)
  | Sum.inr (Sum.inl x) => .long (Int64.ofInt x)
  | Sum.inr (Sum.inr a) => va_rf (rfo G a)
def fRt : List (List Bool) := [[true, true, false], [false, true, true, true, true, true, false, false, false, false, false, false, false, false, false, false], [true, true, true, true, false, false], [false, false, false, false], [false, false, false, false, false, true], [false, false, false, false, false, false, false, false, false, false], [true, true, false, false, false, false, false], [true, true, true, false, false, false], [false, false, false, false, false, false, false], [true, true, true, true, true, false], [true, true, true, true, true, true, true, true, true, true, true, true, true, true, true, true, true, true, true, false, true, false, false, true, true, true, true, false, false, false, true, false, false, false, false, false, true, true, true]]
def fR (c k : Nat) : Bool := (fRt.getD c []).getD k false
def nF (c : Nat) : Nat := (fRt.getD c []).length
def fv (G : GG) (c k : Nat) (x : Int) : Value := if fR c k = true then va_rf (rfo G x) else Value.int (Int32.ofInt x)
def encO (G : GG) (c : Nat) (r : Int → Int) : List Value := (List.range (nF c)).map (fun k => fv G c k (r k))
def enc (G : GG) (r : Int → Int) : va_E :=
  if r (-1) ≤ 11 then .inr ((r (-1) - 1).toNat, encO G (r (-1) - 1).toNat r)
  else if r (-1) ≤ 22 then .inl (gY G (r (-1)), (r (-2)).toNat, .inl (fun j => Int32.ofInt (r j)))
  else .inl (gY G (r (-1)), (r (-2)).toNat, .inr (.inr (.inr (.inr (fun j => rfo G (r j))))))
def cls (G : GG) (h : Hp) : va_W := (List.range (h 0 0).toNat).map (fun i => (gB G + (i + 1), enc G (h ((i : Int) + 1))))
theorem adr_pos {G : GG} {a : Int} (h : 1 ≤ a) : adr G a = gB G + ((a - 1).toNat + 1) := by
  unfold adr
  rw [if_neg (by omega)]
  omega
theorem cls_at {G : GG} {h : Hp} {a : Int} (h1 : 1 ≤ a) (h2 : a ≤ h 0 0) : (cls G h)[(a - 1).toNat]? = some (adr G a, enc G (h a)) := by
  unfold cls
  rw [List.getElem?_map, List.getElem?_range (by omega)]
  simp only [Option.map_some]
  rw [adr_pos h1, show (((a - 1).toNat : Nat) : Int) + 1 = a by omega]
theorem cls_set {G : GG} {h h' : Hp} {a : Int} (h1 : 1 ≤ a) (h2 : a ≤ h 0 0) (h3 : h' 0 0 = h 0 0) (h4 : ∀ b, 1 ≤ b → b ≠ a → h' b = h b) : (cls G h).set (a - 1).toNat (adr G a, enc G (h' a)) = cls G h' := by
  apply List.ext_getElem?
  intro i
  rw [List.getElem?_set]
  unfold cls
  rw [h3]
  by_cases hi : (a - 1).toNat = i
  · subst hi
    rw [if_pos rfl, List.getElem?_map, List.getElem?_range (by omega)]
    simp only [List.length_map, List.length_range, Option.map_some]
    rw [if_pos (by omega), adr_pos h1, show (((a - 1).toNat : Nat) : Int) + 1 = a by omega]
  · rw [if_neg hi, List.getElem?_map, List.getElem?_map]
    by_cases hl : i < (h 0 0).toNat
    · rw [List.getElem?_range hl]
      simp only [Option.map_some]
      rw [h4 _ (by omega) (by omega)]
    · rw [List.getElem?_eq_none (by simp; omega)]
      rfl
theorem cls_push {G : GG} {h h' : Hp} (h1 : 0 ≤ h 0 0) (h3 : h' 0 0 = h 0 0 + 1) (h4 : ∀ b, 1 ≤ b → b ≤ h 0 0 → h' b = h b) : cls G h' = cls G h ++ [(adr G (h 0 0 + 1), enc G (h' (h 0 0 + 1)))] := by
  unfold cls
  rw [h3, show (h 0 0 + 1).toNat = (h 0 0).toNat + 1 by omega, List.range_succ, List.map_append]
  congr 1
  · apply List.map_congr_left
    intro i hi
    rw [List.mem_range] at hi
    rw [h4 _ (by omega) (by omega)]
  · rw [adr_pos (by omega)]
    simp only [List.map_cons, List.map_nil]
    rw [show (h 0 0 + 1 - 1).toNat = (h 0 0).toNat by omega, show (((h 0 0).toNat : Nat) : Int) = h 0 0 by omega]
theorem cls_D {G : GG} {h : Hp} : va_D (gA G) (cls G h) := by
  have key : ∀ (k : Nat) (q : Nat × va_E), (cls G h)[k]? = some q → q.1 = gB G + (k + 1) := by
    intro k q hk
    unfold cls at hk
    rw [List.getElem?_map] at hk
    by_cases hl : k < (h 0 0).toNat
    · rw [List.getElem?_range hl] at hk
      cases hk
      rfl
    · rw [List.getElem?_eq_none (by simp; omega)] at hk
      cases hk
  refine ⟨fun i j p q hi hj he => ?_, fun k q hk => ?_⟩
  · rw [key i p hi, key j q hj] at he
    omega
  · show gB G < q.1
    rw [key k q hk]
    omega
/-- the memory is sound: what is there lies below its top, and holds numbers that fit -/
def okH (h : Hp) : Prop := 0 ≤ h 0 0 ∧ (∀ a : Int, h a (-1) ≠ 0 → 1 ≤ a ∧ a ≤ h 0 0) ∧ (∀ a k : Int, 1 ≤ a → a ≤ h 0 0 → 0 ≤ k → inI (h a k)) ∧ (∀ a : Int, 1 ≤ a → a ≤ h 0 0 → 0 ≤ h a (-2) ∧ h a (-2) < 2147483648)
def Rel (G : GG) (h : Hp) (H : Heap) : Prop := va_P G.2.1 vwCl (cls G h) H ∧ H.size = gB G + (h 0 0).toNat + 1 ∧ okH h
/-- the good words, for every method -/
def gw : List Cond := lw_tbl.filter goodWord
abbrev tysOf (G : GG) : List (ClassId × FieldType) := [(gY G 20, .int), (gY G 21, .boolean), (gY G 22, .char), (gY G 31, .object RX1), (gY G 32, .object RX2), (gY G 33, .object RX3), (gY G 35, .object RX5), (gY G 38, .object RX8)]
def txL : List Nat := [3, 3, 4, 5, 3, 4]
def txB : List (List Int32) := [[97, 108, 108], [107, 101, 121], [99, 101, 108, 108], [100, 101, 108, 97, 121], [97, 105, 109], [106, 111, 105, 110]]
def txR : List (Nat × String) := [(64, "all"), (70, "key"), (72, "cell"), (74, "delay"), (76, "aim"), (78, "join")]
def aoL : List String := [RX1, RX2, RX3, RX5, RX8]
def nestW : List Cond := lw_tbl.filter (fun w => match w with | .methodLinkNest .. => true | _ => false)
/-- what stays of a state, whatever the methods do: the classes, the links among nest mates, the texts, the script -/
def KX (G : GG) (s : State) : Prop := va_K G.2.1 vwCl (tysOf G) s ∧ (∀ w ∈ nestW, va_Nw w s) ∧ (vk_S 6 txL txB (fun i => gN G (-2 - (i : Int))) (fun i => gN G (-10 - (i : Int))) (gA G) s s.heap ∧ (∀ i : Nat, ∀ q : Nat × String, txR[i]? = some q → vk_R RX6 q.1 q.2 (gN G (-2 - (i : Int))) s) ∧ va_Z "java/lang/String" "COMPACT_STRINGS" "Z" (.int 1) (gA G) s s.heap ∧ (va_Z "jdk/internal/util/Preconditions" "SIOOBE_FORMATTER" "Ljava/util/function/BiFunction;" .null (gA G) s s.heap ∨ va_Z "jdk/internal/util/Preconditions" "SIOOBE_FORMATTER" "Ljava/util/function/BiFunction;" (.ref (gN G (-20))) (gA G) s s.heap)) ∧ (va_X (gN G (-1)) G.2.2.2.2.2.1 G.2.2.2.2.2.2 s s.heap ∧ gN G (-1) < s.heap.size ∧ ¬ gA G (gN G (-1)) ∧ ∀ C ∈ aoL, va_AO C s)
/-- a method: name, code, locals, answer, room -/
abbrev MT : Type := MethodName × ByteArray × Nat × Option FieldType × Room
abbrev mY (M : MT) : MethodName := M.1
abbrev mC (M : MT) : ByteArray := M.2.1
abbrev mL (M : MT) : Nat := M.2.2.1
abbrev mR (M : MT) : Option FieldType := M.2.2.2.1
abbrev mQ (M : MT) : Room := M.2.2.2.2
def CX (M : MT) (p : Program) (s : State) (m : MethodId) (args : Array Value) (meth : Method) (c : Code) : Prop := p.tables.exec = Jvm.exec ∧ c.code = mC M ∧ meth.sig.returnType = mR M ∧ c.maxLocals = mL M ∧ s.vm.findClass (mY M).cls = some m.cls ∧ (∀ w ∈ gw, w.before args s = true) ∧ meth.locks = false ∧ meth.name = (mY M).name
abbrev LZ : Type := List Frame → Array Value → State → State → Prop
def lvs (G : GG) (ls : List (Nat × VV)) : List (Nat × Value) := ls.map (fun q => (q.1, cv G q.2))
/-- the walk from a frame: with the budget b (cells, slots) left, in every standing the machine comes to Z -/
def AZ (G : GG) (M : MT) (b : Nat × Nat) (pc : Nat) (ls : List (Nat × VV)) (st : List VV) (h : Hp) (Z : LZ) : Prop :=
  ∀ (p : Program) (e : Env) (s : State) (m : MethodId) (args : Array Value) (below : List Frame) (meth : Method) (c : Code) (H : Heap) (locs : List Loc) (cells slots : Nat) (la : Array Slot),
    CX M p s m args meth c → KX G s → Rel G h H → (∀ q ∈ ls, okV q.2) → (∀ v ∈ st, okV v) → lv_has la (mL M) (lvs G ls) → va_S (gA G) s.heap H locs → gB G < s.heap.size → cells + b.1 ≤ (mQ M).cells → slots + b.2 ≤ (mQ M).slots →
    W p G.1 e (mQ M) s m args below meth c H locs cells slots (Z below args s) (F0 m pc la (st.map (cv G)))
/-- a method's end, as a contract has it -/
def QQ (G : GG) (Q : Option VV → Hp → Prop) : Array Value → State → Outcome → State → Prop := fun _ st oc t => (∃ (r : Option VV) (h : Hp), Q r h ∧ (∀ v ∈ r, okV v) ∧ oc = .returned (r.map (cv G)) ∧ Rel G h t.heap) ∧ va_F (gA G) st t
def ZQ (G : GG) (M : MT) (Q : Option VV → Hp → Prop) : LZ := fun below args s => MQ below (QQ G Q) args s (mQ M).cells (mQ M).slots (gA G)
abbrev AW (G : GG) (M : MT) (b : Nat × Nat) (pc : Nat) (ls : List (Nat × VV)) (st : List VV) (h : Hp) (Q : Option VV → Hp → Prop) : Prop := AZ G M b pc ls st h (ZQ G M Q)
def PP (G : GG) (as : List VV) (h : Hp) : Array Value → State → Prop := fun v U => v = (as.map (cv G)).toArray ∧ (∀ v ∈ as, okV v) ∧ Rel G h U.heap ∧ KX G U ∧ gB G < U.heap.size
def wsM (M : MT) : List Cond := .code (mY M) (mC M) (mL M) (mR M) :: gw
def Runs (G : GG) (M : MT) (as : List VV) (h : Hp) (Q : Option VV → Hp → Prop) : Prop := Met G.1 (mY M) (wsM M) (mQ M) (PP G as h) (QQ G Q) (mQ M).cells (mQ M).slots (gA G)
