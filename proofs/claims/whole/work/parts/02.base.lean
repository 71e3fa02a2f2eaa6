/-! ===== tables: classes, fields, methods; printed by a program of mine out of the Statement's words ===== -/
abbrev sd_H : Type := Nat → Option va_E
/-- class numbers and field slots, array classes by tag; the first address that may be written; addresses of static tables; the script: its address, length, ints -/
abbrev sd_G : Type := (va_G × (Nat → ClassId)) × Nat × (Nat → Nat) × (Nat × Nat × (Nat → Int32))
/-- a method: name, bytes, locals, what it returns -/
abbrev sd_M : Type := MethodName × ByteArray × Nat × Option FieldType
/-- a static table: class, name, number, ints -/
abbrev sd_Z : Type := String × String × Nat × List Int32
def sd_A (G : sd_G) : Nat → Prop := fun q => G.2.1 ≤ q
def sd_tbl : List Cond := lw_tbl.filter goodWord
theorem sd_in1 {w : Cond} (h : w ∈ tables_1_1) : w ∈ tables_1 := List.mem_append_left _ h
theorem sd_in2 {w : Cond} (h : w ∈ tables_1_2) : w ∈ tables_1 := List.mem_append_right _ (List.mem_append_left _ h)
theorem sd_in3 {w : Cond} (h : w ∈ tables_1_3) : w ∈ tables_1 := List.mem_append_right _ (List.mem_append_right _ (List.mem_append_left _ h))
theorem sd_in4 {w : Cond} (h : w ∈ tables_1_4) : w ∈ tables_1 := List.mem_append_right _ (List.mem_append_right _ (List.mem_append_right _ (List.mem_append_left _ h)))
theorem sd_in5 {w : Cond} (h : w ∈ tables_1_5) : w ∈ tables_1 := List.mem_append_right _ (List.mem_append_right _ (List.mem_append_right _ (List.mem_append_right _ h)))
theorem sd_memT {w : Cond} (h : w ∈ tables_1) (hg : goodWord w = true) : w ∈ sd_tbl := List.mem_filter.mpr ⟨List.mem_append_right _ h, hg⟩
theorem sd_memS {y : MethodName} {k : Nat} (i : Nat) (h : lw_privs[i]? = some (y, k)) : Cond.selects y.cls y y ∈ sd_tbl := List.mem_filter.mpr ⟨List.mem_append_left _ (List.mem_map.mpr ⟨(y, k), List.mem_of_getElem? h, rfl⟩), rfl⟩
def sd_isN : Cond → Bool
  | .fieldLinkNest .. => true
  | .methodLinkNest .. => true
  | _ => false
def sd_nest : List Cond := tables_1.filter sd_isN
theorem sd_nT {w : Cond} (h : w ∈ tables_1) (hg : sd_isN w = true) : w ∈ sd_nest := List.mem_filter.mpr ⟨h, hg⟩
theorem sd_nest_on (w : Cond) (h : w ∈ sd_nest) : w.onTables = true := by
  have h2 := (List.mem_filter.mp h).2
  cases w <;> first | rfl | (simp [sd_isN] at h2; done)
theorem sd_nest_warm (w : Cond) (h : w ∈ sd_nest) {s U : State} (hW : s.WarmedH U.vm) (hZ : va_Nw w s) : va_Nw w U := by
  have h2 := (List.mem_filter.mp h).2
  cases w <;> first | exact va_Nw.warmF hW hZ | exact va_Nw.warmM hW hZ | (simp [sd_isN] at h2; done)
def sT_DK : u_T := fun k => match k with
  | 0 => ("SequentDesk", "terms", "LSequentDesk$Terms;", true)
  | 1 => ("SequentDesk", "draft", "LSequentDesk$Draft;", true)
  | 2 => ("SequentDesk", "inference", "LSequentDesk$Inference;", true)
  | 3 => ("SequentDesk", "rules", "LSequentDesk$Rules;", true)
  | _ => ("SequentDesk", "goals", "LSequentDesk$Goals;", true)
def sY_DK : Nat → FieldType := fun k => match k with
  | 0 => .object "SequentDesk$Terms"
  | 1 => .object "SequentDesk$Draft"
  | 2 => .object "SequentDesk$Inference"
  | 3 => .object "SequentDesk$Rules"
  | _ => .object "SequentDesk$Goals"
abbrev sR_DK : vw_C := ("SequentDesk", sT_DK, 5)
theorem sO_DK : (∀ w ∈ u_ws sR_DK.1 sR_DK.2.1 sR_DK.2.2, w ∈ sd_tbl) ∧ (∀ k, k < sR_DK.2.2 → parseFieldDescriptor (sR_DK.2.1 k).2.2.1 = some (sY_DK k)) ∧ ∀ a, a < sR_DK.2.2 → ∀ b, b < sR_DK.2.2 → a ≠ b → (sR_DK.2.1 a).2.1 ≠ (sR_DK.2.1 b).2.1 := by
  have h : (u_ws sR_DK.1 sR_DK.2.1 sR_DK.2.2).all (fun w => decide (w ∈ tables_1) && goodWord w) = true := by decide +kernel
  refine ⟨fun w hw => ?_, by decide +kernel, by decide +kernel⟩
  have h1 := List.all_eq_true.mp h w hw
  simp only [Bool.and_eq_true, decide_eq_true_eq] at h1
  exact sd_memT h1.1 h1.2
def sT_DR : u_T := fun k => match k with
  | 0 => ("SequentDesk$Draft", "tokens", "[I", true)
  | 1 => ("SequentDesk$Draft", "binders", "[I", true)
  | _ => ("SequentDesk$Draft", "length", "I", false)
def sY_DR : Nat → FieldType := fun k => match k with
  | 0 => .array .int
  | 1 => .array .int
  | _ => .int
abbrev sR_DR : vw_C := ("SequentDesk$Draft", sT_DR, 3)
theorem sO_DR : (∀ w ∈ u_ws sR_DR.1 sR_DR.2.1 sR_DR.2.2, w ∈ sd_tbl) ∧ (∀ k, k < sR_DR.2.2 → parseFieldDescriptor (sR_DR.2.1 k).2.2.1 = some (sY_DR k)) ∧ ∀ a, a < sR_DR.2.2 → ∀ b, b < sR_DR.2.2 → a ≠ b → (sR_DR.2.1 a).2.1 ≠ (sR_DR.2.1 b).2.1 := by
  have h : (u_ws sR_DR.1 sR_DR.2.1 sR_DR.2.2).all (fun w => decide (w ∈ tables_1) && goodWord w) = true := by decide +kernel
  refine ⟨fun w hw => ?_, by decide +kernel, by decide +kernel⟩
  have h1 := List.all_eq_true.mp h w hw
  simp only [Bool.and_eq_true, decide_eq_true_eq] at h1
  exact sd_memT h1.1 h1.2
def sT_GL : u_T := fun k => match k with
  | 0 => ("SequentDesk$Goal", "wants", "LSequentDesk$Statement;", true)
  | 1 => ("SequentDesk$Goal", "tactic", "I", false)
  | 2 => ("SequentDesk$Goal", "theorem", "I", false)
  | _ => ("SequentDesk$Goal", "left", "I", false)
def sY_GL : Nat → FieldType := fun k => match k with
  | 0 => .object "SequentDesk$Statement"
  | 1 => .int
  | 2 => .int
  | _ => .int
abbrev sR_GL : vw_C := ("SequentDesk$Goal", sT_GL, 4)
theorem sO_GL : (∀ w ∈ u_ws sR_GL.1 sR_GL.2.1 sR_GL.2.2, w ∈ sd_tbl) ∧ (∀ k, k < sR_GL.2.2 → parseFieldDescriptor (sR_GL.2.1 k).2.2.1 = some (sY_GL k)) ∧ ∀ a, a < sR_GL.2.2 → ∀ b, b < sR_GL.2.2 → a ≠ b → (sR_GL.2.1 a).2.1 ≠ (sR_GL.2.1 b).2.1 := by
  have h : (u_ws sR_GL.1 sR_GL.2.1 sR_GL.2.2).all (fun w => decide (w ∈ tables_1) && goodWord w) = true := by decide +kernel
  refine ⟨fun w hw => ?_, by decide +kernel, by decide +kernel⟩
  have h1 := List.all_eq_true.mp h w hw
  simp only [Bool.and_eq_true, decide_eq_true_eq] at h1
  exact sd_memT h1.1 h1.2
def sT_GS : u_T := fun k => match k with
  | 0 => ("SequentDesk$Goals", "terms", "LSequentDesk$Terms;", true)
  | 1 => ("SequentDesk$Goals", "rules", "LSequentDesk$Rules;", true)
  | 2 => ("SequentDesk$Goals", "all", "[LSequentDesk$Goal;", true)
  | 3 => ("SequentDesk$Goals", "made", "I", false)
  | 4 => ("SequentDesk$Goals", "open", "[I", true)
  | 5 => ("SequentDesk$Goals", "openCount", "I", false)
  | 6 => ("SequentDesk$Goals", "taken", "[I", true)
  | _ => ("SequentDesk$Goals", "takenCount", "I", false)
def sY_GS : Nat → FieldType := fun k => match k with
  | 0 => .object "SequentDesk$Terms"
  | 1 => .object "SequentDesk$Rules"
  | 2 => .array (.object "SequentDesk$Goal")
  | 3 => .int
  | 4 => .array .int
  | 5 => .int
  | 6 => .array .int
  | _ => .int
abbrev sR_GS : vw_C := ("SequentDesk$Goals", sT_GS, 8)
theorem sO_GS : (∀ w ∈ u_ws sR_GS.1 sR_GS.2.1 sR_GS.2.2, w ∈ sd_tbl) ∧ (∀ k, k < sR_GS.2.2 → parseFieldDescriptor (sR_GS.2.1 k).2.2.1 = some (sY_GS k)) ∧ ∀ a, a < sR_GS.2.2 → ∀ b, b < sR_GS.2.2 → a ≠ b → (sR_GS.2.1 a).2.1 ≠ (sR_GS.2.1 b).2.1 := by
  have h : (u_ws sR_GS.1 sR_GS.2.1 sR_GS.2.2).all (fun w => decide (w ∈ tables_1) && goodWord w) = true := by decide +kernel
  refine ⟨fun w hw => ?_, by decide +kernel, by decide +kernel⟩
  have h1 := List.all_eq_true.mp h w hw
  simp only [Bool.and_eq_true, decide_eq_true_eq] at h1
  exact sd_memT h1.1 h1.2
def sT_IN : u_T := fun k => match k with
  | 0 => ("SequentDesk$Inference", "link", "[I", true)
  | 1 => ("SequentDesk$Inference", "kinds", "[I", true)
  | 2 => ("SequentDesk$Inference", "froms", "[I", true)
  | 3 => ("SequentDesk$Inference", "tos", "[I", true)
  | 4 => ("SequentDesk$Inference", "found", "[I", true)
  | 5 => ("SequentDesk$Inference", "lefts", "[I", true)
  | 6 => ("SequentDesk$Inference", "rights", "[I", true)
  | 7 => ("SequentDesk$Inference", "nodes", "I", false)
  | _ => ("SequentDesk$Inference", "equations", "I", false)
def sY_IN : Nat → FieldType := fun k => match k with
  | 0 => .array .int
  | 1 => .array .int
  | 2 => .array .int
  | 3 => .array .int
  | 4 => .array .int
  | 5 => .array .int
  | 6 => .array .int
  | 7 => .int
  | _ => .int
abbrev sR_IN : vw_C := ("SequentDesk$Inference", sT_IN, 9)
theorem sO_IN : (∀ w ∈ u_ws sR_IN.1 sR_IN.2.1 sR_IN.2.2, w ∈ sd_tbl) ∧ (∀ k, k < sR_IN.2.2 → parseFieldDescriptor (sR_IN.2.1 k).2.2.1 = some (sY_IN k)) ∧ ∀ a, a < sR_IN.2.2 → ∀ b, b < sR_IN.2.2 → a ≠ b → (sR_IN.2.1 a).2.1 ≠ (sR_IN.2.1 b).2.1 := by
  have h : (u_ws sR_IN.1 sR_IN.2.1 sR_IN.2.2).all (fun w => decide (w ∈ tables_1) && goodWord w) = true := by decide +kernel
  refine ⟨fun w hw => ?_, by decide +kernel, by decide +kernel⟩
  have h1 := List.all_eq_true.mp h w hw
  simp only [Bool.and_eq_true, decide_eq_true_eq] at h1
  exact sd_memT h1.1 h1.2
def sT_RU : u_T := fun k => match k with
  | 0 => ("SequentDesk$Rules", "terms", "LSequentDesk$Terms;", true)
  | 1 => ("SequentDesk$Rules", "all", "[LSequentDesk$Theorem;", true)
  | _ => ("SequentDesk$Rules", "made", "I", false)
def sY_RU : Nat → FieldType := fun k => match k with
  | 0 => .object "SequentDesk$Terms"
  | 1 => .array (.object "SequentDesk$Theorem")
  | _ => .int
abbrev sR_RU : vw_C := ("SequentDesk$Rules", sT_RU, 3)
theorem sO_RU : (∀ w ∈ u_ws sR_RU.1 sR_RU.2.1 sR_RU.2.2, w ∈ sd_tbl) ∧ (∀ k, k < sR_RU.2.2 → parseFieldDescriptor (sR_RU.2.1 k).2.2.1 = some (sY_RU k)) ∧ ∀ a, a < sR_RU.2.2 → ∀ b, b < sR_RU.2.2 → a ≠ b → (sR_RU.2.1 a).2.1 ≠ (sR_RU.2.1 b).2.1 := by
  have h : (u_ws sR_RU.1 sR_RU.2.1 sR_RU.2.2).all (fun w => decide (w ∈ tables_1) && goodWord w) = true := by decide +kernel
  refine ⟨fun w hw => ?_, by decide +kernel, by decide +kernel⟩
  have h1 := List.all_eq_true.mp h w hw
  simp only [Bool.and_eq_true, decide_eq_true_eq] at h1
  exact sd_memT h1.1 h1.2
def sT_ST : u_T := fun k => match k with
  | 0 => ("SequentDesk$Statement", "hypotheses", "[I", true)
  | 1 => ("SequentDesk$Statement", "size", "I", false)
  | 2 => ("SequentDesk$Statement", "conclusion", "I", false)
  | _ => ("SequentDesk$Statement", "big", "Z", false)
def sY_ST : Nat → FieldType := fun k => match k with
  | 0 => .array .int
  | 1 => .int
  | 2 => .int
  | _ => .boolean
abbrev sR_ST : vw_C := ("SequentDesk$Statement", sT_ST, 4)
theorem sO_ST : (∀ w ∈ u_ws sR_ST.1 sR_ST.2.1 sR_ST.2.2, w ∈ sd_tbl) ∧ (∀ k, k < sR_ST.2.2 → parseFieldDescriptor (sR_ST.2.1 k).2.2.1 = some (sY_ST k)) ∧ ∀ a, a < sR_ST.2.2 → ∀ b, b < sR_ST.2.2 → a ≠ b → (sR_ST.2.1 a).2.1 ≠ (sR_ST.2.1 b).2.1 := by
  have h : (u_ws sR_ST.1 sR_ST.2.1 sR_ST.2.2).all (fun w => decide (w ∈ tables_1) && goodWord w) = true := by decide +kernel
  refine ⟨fun w hw => ?_, by decide +kernel, by decide +kernel⟩
  have h1 := List.all_eq_true.mp h w hw
  simp only [Bool.and_eq_true, decide_eq_true_eq] at h1
  exact sd_memT h1.1 h1.2
def sT_TM : u_T := fun k => match k with
  | 0 => ("SequentDesk$Term", "symbols", "[I", true)
  | 1 => ("SequentDesk$Term", "types", "[I", true)
  | 2 => ("SequentDesk$Term", "ends", "[I", true)
  | 3 => ("SequentDesk$Term", "length", "I", false)
  | _ => ("SequentDesk$Term", "big", "Z", false)
def sY_TM : Nat → FieldType := fun k => match k with
  | 0 => .array .int
  | 1 => .array .int
  | 2 => .array .int
  | 3 => .int
  | _ => .boolean
abbrev sR_TM : vw_C := ("SequentDesk$Term", sT_TM, 5)
theorem sO_TM : (∀ w ∈ u_ws sR_TM.1 sR_TM.2.1 sR_TM.2.2, w ∈ sd_tbl) ∧ (∀ k, k < sR_TM.2.2 → parseFieldDescriptor (sR_TM.2.1 k).2.2.1 = some (sY_TM k)) ∧ ∀ a, a < sR_TM.2.2 → ∀ b, b < sR_TM.2.2 → a ≠ b → (sR_TM.2.1 a).2.1 ≠ (sR_TM.2.1 b).2.1 := by
  have h : (u_ws sR_TM.1 sR_TM.2.1 sR_TM.2.2).all (fun w => decide (w ∈ tables_1) && goodWord w) = true := by decide +kernel
  refine ⟨fun w hw => ?_, by decide +kernel, by decide +kernel⟩
  have h1 := List.all_eq_true.mp h w hw
  simp only [Bool.and_eq_true, decide_eq_true_eq] at h1
  exact sd_memT h1.1 h1.2
def sT_TS : u_T := fun k => match k with
  | 0 => ("SequentDesk$Terms", "nameTypes", "[I", true)
  | 1 => ("SequentDesk$Terms", "all", "[LSequentDesk$Term;", true)
  | 2 => ("SequentDesk$Terms", "made", "I", false)
  | _ => ("SequentDesk$Terms", "single", "LSequentDesk$Term;", true)
def sY_TS : Nat → FieldType := fun k => match k with
  | 0 => .array .int
  | 1 => .array (.object "SequentDesk$Term")
  | 2 => .int
  | _ => .object "SequentDesk$Term"
abbrev sR_TS : vw_C := ("SequentDesk$Terms", sT_TS, 4)
theorem sO_TS : (∀ w ∈ u_ws sR_TS.1 sR_TS.2.1 sR_TS.2.2, w ∈ sd_tbl) ∧ (∀ k, k < sR_TS.2.2 → parseFieldDescriptor (sR_TS.2.1 k).2.2.1 = some (sY_TS k)) ∧ ∀ a, a < sR_TS.2.2 → ∀ b, b < sR_TS.2.2 → a ≠ b → (sR_TS.2.1 a).2.1 ≠ (sR_TS.2.1 b).2.1 := by
  have h : (u_ws sR_TS.1 sR_TS.2.1 sR_TS.2.2).all (fun w => decide (w ∈ tables_1) && goodWord w) = true := by decide +kernel
  refine ⟨fun w hw => ?_, by decide +kernel, by decide +kernel⟩
  have h1 := List.all_eq_true.mp h w hw
  simp only [Bool.and_eq_true, decide_eq_true_eq] at h1
  exact sd_memT h1.1 h1.2
def sT_TH : u_T := fun k => match k with
  | 0 => ("SequentDesk$Theorem", "says", "LSequentDesk$Statement;", true)
  | 1 => ("SequentDesk$Theorem", "rule", "I", false)
  | 2 => ("SequentDesk$Theorem", "first", "I", false)
  | 3 => ("SequentDesk$Theorem", "second", "I", false)
  | _ => ("SequentDesk$Theorem", "rests", "J", false)
def sY_TH : Nat → FieldType := fun k => match k with
  | 0 => .object "SequentDesk$Statement"
  | 1 => .int
  | 2 => .int
  | 3 => .int
  | _ => .long
abbrev sR_TH : vw_C := ("SequentDesk$Theorem", sT_TH, 5)
theorem sO_TH : (∀ w ∈ u_ws sR_TH.1 sR_TH.2.1 sR_TH.2.2, w ∈ sd_tbl) ∧ (∀ k, k < sR_TH.2.2 → parseFieldDescriptor (sR_TH.2.1 k).2.2.1 = some (sY_TH k)) ∧ ∀ a, a < sR_TH.2.2 → ∀ b, b < sR_TH.2.2 → a ≠ b → (sR_TH.2.1 a).2.1 ≠ (sR_TH.2.1 b).2.1 := by
  have h : (u_ws sR_TH.1 sR_TH.2.1 sR_TH.2.2).all (fun w => decide (w ∈ tables_1) && goodWord w) = true := by decide +kernel
  refine ⟨fun w hw => ?_, by decide +kernel, by decide +kernel⟩
  have h1 := List.all_eq_true.mp h w hw
  simp only [Bool.and_eq_true, decide_eq_true_eq] at h1
  exact sd_memT h1.1 h1.2
def sT_MO : u_T := fun k => match k with
  | 0 => ("SequentDeskModel", "sy", "[I", true)
  | 1 => ("SequentDeskModel", "ty", "[I", true)
  | 2 => ("SequentDeskModel", "len", "[I", true)
  | 3 => ("SequentDeskModel", "nameType", "[I", true)
  | 4 => ("SequentDeskModel", "draft", "[I", true)
  | 5 => ("SequentDeskModel", "terms", "I", false)
  | 6 => ("SequentDeskModel", "tokens", "I", false)
  | 7 => ("SequentDeskModel", "over", "Z", false)
  | 8 => ("SequentDeskModel", "conclusion", "[I", true)
  | 9 => ("SequentDeskModel", "hyps", "[I", true)
  | 10 => ("SequentDeskModel", "hyp", "[I", true)
  | 11 => ("SequentDeskModel", "made", "[I", true)
  | 12 => ("SequentDeskModel", "first", "[I", true)
  | 13 => ("SequentDeskModel", "second", "[I", true)
  | 14 => ("SequentDeskModel", "theorems", "I", false)
  | 15 => ("SequentDeskModel", "row", "[I", true)
  | 16 => ("SequentDeskModel", "rows", "I", false)
  | 17 => ("SequentDeskModel", "gTerm", "[I", true)
  | 18 => ("SequentDeskModel", "gHyps", "[I", true)
  | 19 => ("SequentDeskModel", "gHyp", "[I", true)
  | 20 => ("SequentDeskModel", "gTactic", "[I", true)
  | 21 => ("SequentDeskModel", "gArg", "[I", true)
  | 22 => ("SequentDeskModel", "gKid", "[I", true)
  | 23 => ("SequentDeskModel", "gKids", "[I", true)
  | 24 => ("SequentDeskModel", "opens", "[I", true)
  | 25 => ("SequentDeskModel", "doneAt", "[I", true)
  | 26 => ("SequentDeskModel", "proof", "[I", true)
  | 27 => ("SequentDeskModel", "goals", "I", false)
  | 28 => ("SequentDeskModel", "open", "I", false)
  | 29 => ("SequentDeskModel", "done", "I", false)
  | 30 => ("SequentDeskModel", "node", "[I", true)
  | 31 => ("SequentDeskModel", "left", "[I", true)
  | 32 => ("SequentDeskModel", "right", "[I", true)
  | 33 => ("SequentDeskModel", "link", "[I", true)
  | 34 => ("SequentDeskModel", "digits", "[I", true)
  | 35 => ("SequentDeskModel", "number", "[I", true)
  | 36 => ("SequentDeskModel", "todo", "[I", true)
  | _ => ("SequentDeskModel", "nodes", "I", false)
def sY_MO : Nat → FieldType := fun k => match k with
  | 0 => .array .int
  | 1 => .array .int
  | 2 => .array .int
  | 3 => .array .int
  | 4 => .array .int
  | 5 => .int
  | 6 => .int
  | 7 => .boolean
  | 8 => .array .int
  | 9 => .array .int
  | 10 => .array .int
  | 11 => .array .int
  | 12 => .array .int
  | 13 => .array .int
  | 14 => .int
  | 15 => .array .int
  | 16 => .int
  | 17 => .array .int
  | 18 => .array .int
  | 19 => .array .int
  | 20 => .array .int
  | 21 => .array .int
  | 22 => .array .int
  | 23 => .array .int
  | 24 => .array .int
  | 25 => .array .int
  | 26 => .array .int
  | 27 => .int
  | 28 => .int
  | 29 => .int
  | 30 => .array .int
  | 31 => .array .int
  | 32 => .array .int
  | 33 => .array .int
  | 34 => .array .int
  | 35 => .array .int
  | 36 => .array .int
  | _ => .int
abbrev sR_MO : vw_C := ("SequentDeskModel", sT_MO, 38)
theorem sO_MO : (∀ w ∈ u_ws sR_MO.1 sR_MO.2.1 sR_MO.2.2, w ∈ sd_tbl) ∧ (∀ k, k < sR_MO.2.2 → parseFieldDescriptor (sR_MO.2.1 k).2.2.1 = some (sY_MO k)) ∧ ∀ a, a < sR_MO.2.2 → ∀ b, b < sR_MO.2.2 → a ≠ b → (sR_MO.2.1 a).2.1 ≠ (sR_MO.2.1 b).2.1 := by
  have h : (u_ws sR_MO.1 sR_MO.2.1 sR_MO.2.2).all (fun w => decide (w ∈ tables_1) && goodWord w) = true := by decide +kernel
  refine ⟨fun w hw => ?_, by decide +kernel, by decide +kernel⟩
  have h1 := List.all_eq_true.mp h w hw
  simp only [Bool.and_eq_true, decide_eq_true_eq] at h1
  exact sd_memT h1.1 h1.2
abbrev sd_cl : List vw_C := [sR_DK, sR_DR, sR_GL, sR_GS, sR_IN, sR_RU, sR_ST, sR_TM, sR_TS, sR_TH, sR_MO]
def sd_ty : Nat → Nat → FieldType := fun c => match c with
  | 0 => sY_DK
  | 1 => sY_DR
  | 2 => sY_GL
  | 3 => sY_GS
  | 4 => sY_IN
  | 5 => sY_RU
  | 6 => sY_ST
  | 7 => sY_TM
  | 8 => sY_TS
  | 9 => sY_TH
  | _ => sY_MO
theorem sd_cls_ok (ci : Nat) (r : vw_C) (h : sd_cl[ci]? = some r) : (∀ w ∈ u_ws r.1 r.2.1 r.2.2, w ∈ sd_tbl) ∧ (∀ k, k < r.2.2 → parseFieldDescriptor (r.2.1 k).2.2.1 = some (sd_ty ci k)) ∧ ∀ a, a < r.2.2 → ∀ b, b < r.2.2 → a ≠ b → (r.2.1 a).2.1 ≠ (r.2.1 b).2.1 := by
  match ci, h with
  | 0, h => cases h; exact sO_DK
  | 1, h => cases h; exact sO_DR
  | 2, h => cases h; exact sO_GL
  | 3, h => cases h; exact sO_GS
  | 4, h => cases h; exact sO_IN
  | 5, h => cases h; exact sO_RU
  | 6, h => cases h; exact sO_ST
  | 7, h => cases h; exact sO_TM
  | 8, h => cases h; exact sO_TS
  | 9, h => cases h; exact sO_TH
  | 10, h => cases h; exact sO_MO
  | k + 11, h => simp [sd_cl] at h
def sd_tys (A : Nat → ClassId) : List (ClassId × FieldType) := [(A 0, .int), (A 1, .object "SequentDesk$Term"), (A 2, .object "SequentDesk$Theorem"), (A 3, .object "SequentDesk$Goal")]
def sd_aos : List String := ["SequentDesk$Term", "SequentDesk$Theorem", "SequentDesk$Goal"]
def sz_USED : sd_Z := ("SequentDesk", "USED_THEOREMS", 0, [0, 0, 2, 2, 1, 0, 2, 2, 1])
def sz_LEFT : sd_Z := ("SequentDesk", "LEFT_GOALS", 1, [0, 0, 2, 2, 1, 0, 2, 2, 0])
def sz_REPEATED : sd_Z := ("SequentDesk", "REPEATED", 2, [0, 1, 5, 4, 4, 4, 4, 4, 4, 4, 4, 3])
def sz_WITH : sd_Z := ("SequentDesk", "REPEATED_WITH", 3, [0, 0, 0, 0, 1, 2, 3, 4, 5, 6, 7, 0])
def sd_sts : List sd_Z := [sz_USED, sz_LEFT, sz_REPEATED, sz_WITH]
theorem sd_arr_int : Cond.arrayClass (newarray.typeOf .int) ∈ sd_tbl := (sd_memT (sd_in1 (List.mem_of_getElem? (i := 68) rfl)) rfl)
theorem sd_obj : Cond.instanceMethod objectInit ∈ sd_tbl ∧ Cond.code objectInit ⟨#[0xb1]⟩ 1 none ∈ sd_tbl := ⟨(sd_memT (sd_in1 (List.mem_of_getElem? (i := 21) rfl)) rfl), (sd_memT (sd_in1 (List.mem_of_getElem? (i := 22) rfl)) rfl)⟩
def sd_T (G : sd_G) (U : State) : Prop := va_K G.1.1 sd_cl (sd_tys G.1.2) U ∧ (∀ w ∈ sd_nest, va_Nw w U) ∧ (∀ C ∈ sd_aos, va_AO C U) ∧ (∀ z ∈ sd_sts, va_Z z.1 z.2.1 "[I" (.ref (G.2.2.1 z.2.2.1)) (sd_A G) U U.heap ∧ va_T .int (G.2.2.1 z.2.2.1) z.2.2.2.length (fun j => .int (z.2.2.2.getD j 0)) (sd_A G) U U.heap) ∧ va_T .int G.2.2.2.1 G.2.2.2.2.1 (fun j => .int (G.2.2.2.2.2 j)) (sd_A G) U U.heap
