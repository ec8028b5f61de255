/-! part 03: names, field tables, the one word list, call rows; written by wip/whole/names.py -/
def wG : List Cond := lw_tbl.filter goodWord
theorem wg_t {w : Cond} (i : Nat) (h : tables_1[i]? = some w) (hg : goodWord w = true) : w ∈ wG := List.mem_filter.mpr ⟨List.mem_append_right _ (List.mem_of_getElem? h), hg⟩
theorem wg_s {q : MethodName × Nat} (i : Nat) (h : lw_privs[i]? = some q) (hg : goodWord (Cond.selects q.1.cls q.1 q.1) = true) : Cond.selects q.1.cls q.1 q.1 ∈ wG := List.mem_filter.mpr ⟨List.mem_append_left _ (List.mem_map.mpr ⟨q, List.mem_of_getElem? h, rfl⟩), hg⟩
theorem wg_in {Ts : List Cond} {y : MethodName} {b : ByteArray} {n : Nat} {r : Option FieldType} (h : ∀ w ∈ wG, w ∈ Ts) (hc : Cond.code y b n r ∈ wG) : GoodIn Ts (Cond.code y b n r :: wG) := by
  intro w hw
  have h1 : w ∈ wG := by
    rcases List.mem_cons.mp hw with rfl | h1
    · exact hc
    · exact h1
  exact ⟨h w h1, good_of_word (List.mem_filter.mp h1).2⟩
theorem cb_G {R : Room} {s : State} {args : Array Value} {own : String} {index : Nat} {y : MethodName} {bytes : ByteArray} {maxL n : Nat} {ret : Option FieldType} {rm : Room} {Ts : List Cond} (hts : ∀ w ∈ Ts, w.before args s = true) (hsub : ∀ w ∈ wG, w ∈ Ts) (hc : Cond.code y bytes maxL ret ∈ wG) (hini : Cond.initialized y.cls ∈ wG) (hl : Cond.methodLink own index y ∈ wG)
    (hd : y.cls ≠ "java/lang/invoke/MethodHandle" ∧ y.cls ≠ "java/lang/invoke/VarHandle" ∧ (parseMethodDescriptor y.desc).map (fun d => d.parameters.length) = some n) (hrc : rm.cells = 0) (hrs : rm.slots = 0) (hR : rm.frames + 1 ≤ R.frames ∧ 8 + (maxL + 11) + rm.locals ≤ R.locals) : CallB R s args own index y bytes maxL ret (Cond.code y bytes maxL ret :: wG) rm 0 0 n :=
  callB_of n hts (wg_in hsub hc) rfl hrc hrs (hts _ (hsub _ hini)) (hts _ (hsub _ hl)) hd hR
def F_FV : u_T := fun k => match k with
  | 0 => ("FrameVerifier", "code", "LFrameVerifier$Code;", true)
  | 1 => ("FrameVerifier", "flow", "LFrameVerifier$Flow;", true)
  | 2 => ("FrameVerifier", "machine", "LFrameVerifier$Machine;", true)
  | _ => ("FrameVerifier", "verified", "Z", false)
def t_FV : Nat → FieldType := fun k => match k with
  | 0 => (.object "FrameVerifier$Code")
  | 1 => (.object "FrameVerifier$Flow")
  | 2 => (.object "FrameVerifier$Machine")
  | _ => .boolean
theorem n_FV : ∀ a, a < 4 → ∀ b, b < 4 → a ≠ b → (F_FV a).2.1 ≠ (F_FV b).2.1 := by decide +kernel
theorem t_FV_ok : ∀ k, k < 4 → parseFieldDescriptor (F_FV k).2.2.1 = some (t_FV k) := by decide +kernel
theorem i_FV : ∀ w ∈ u_ws "FrameVerifier" F_FV 4, w ∈ wG := by
  intro w hw
  obtain ⟨k, hk, rfl⟩ := List.mem_map.mp hw
  have hk := List.mem_range.mp hk
  exact (show ∀ k, k < 4 → u_lay "FrameVerifier" F_FV k ∈ wG from fun k hk => wg_t ([147, 149, 151, 153].getD k 0) ((show ∀ k, k < 4 → tables_1[[147, 149, 151, 153].getD k 0]? = some (u_lay "FrameVerifier" F_FV k) by decide +kernel) k hk) ((show ∀ k, k < 4 → goodWord (u_lay "FrameVerifier" F_FV k) = true by decide +kernel) k hk)) k hk
def F_Co : u_T := fun k => match k with
  | 0 => ("FrameVerifier$Code", "count", "I", false)
  | 1 => ("FrameVerifier$Code", "ops", "[I", true)
  | 2 => ("FrameVerifier$Code", "numbers", "[I", true)
  | 3 => ("FrameVerifier$Code", "told", "[Z", true)
  | 4 => ("FrameVerifier$Code", "starts", "[I", true)
  | 5 => ("FrameVerifier$Code", "parameters", "[I", true)
  | _ => ("FrameVerifier$Code", "kinds", "[I", true)
def t_Co : Nat → FieldType := fun k => match k with
  | 0 => .int
  | 1 => (.array .int)
  | 2 => (.array .int)
  | 3 => (.array .boolean)
  | 4 => (.array .int)
  | 5 => (.array .int)
  | _ => (.array .int)
theorem n_Co : ∀ a, a < 7 → ∀ b, b < 7 → a ≠ b → (F_Co a).2.1 ≠ (F_Co b).2.1 := by decide +kernel
theorem t_Co_ok : ∀ k, k < 7 → parseFieldDescriptor (F_Co k).2.2.1 = some (t_Co k) := by decide +kernel
theorem i_Co : ∀ w ∈ u_ws "FrameVerifier$Code" F_Co 7, w ∈ wG := by
  intro w hw
  obtain ⟨k, hk, rfl⟩ := List.mem_map.mp hw
  have hk := List.mem_range.mp hk
  exact (show ∀ k, k < 7 → u_lay "FrameVerifier$Code" F_Co k ∈ wG from fun k hk => wg_t ([49, 51, 53, 55, 57, 59, 61].getD k 0) ((show ∀ k, k < 7 → tables_1[[49, 51, 53, 55, 57, 59, 61].getD k 0]? = some (u_lay "FrameVerifier$Code" F_Co k) by decide +kernel) k hk) ((show ∀ k, k < 7 → goodWord (u_lay "FrameVerifier$Code" F_Co k) = true by decide +kernel) k hk)) k hk
def F_Fl : u_T := fun k => match k with
  | 0 => ("FrameVerifier$Flow", "code", "LFrameVerifier$Code;", true)
  | 1 => ("FrameVerifier$Flow", "known", "[Z", true)
  | 2 => ("FrameVerifier$Flow", "states", "[[I", true)
  | 3 => ("FrameVerifier$Flow", "waiting", "[Z", true)
  | _ => ("FrameVerifier$Flow", "waitingFrom", "I", false)
def t_Fl : Nat → FieldType := fun k => match k with
  | 0 => (.object "FrameVerifier$Code")
  | 1 => (.array .boolean)
  | 2 => (.array (.array .int))
  | 3 => (.array .boolean)
  | _ => .int
theorem n_Fl : ∀ a, a < 5 → ∀ b, b < 5 → a ≠ b → (F_Fl a).2.1 ≠ (F_Fl b).2.1 := by decide +kernel
theorem t_Fl_ok : ∀ k, k < 5 → parseFieldDescriptor (F_Fl k).2.2.1 = some (t_Fl k) := by decide +kernel
theorem i_Fl : ∀ w ∈ u_ws "FrameVerifier$Flow" F_Fl 5, w ∈ wG := by
  intro w hw
  obtain ⟨k, hk, rfl⟩ := List.mem_map.mp hw
  have hk := List.mem_range.mp hk
  exact (show ∀ k, k < 5 → u_lay "FrameVerifier$Flow" F_Fl k ∈ wG from fun k hk => wg_t ([79, 81, 83, 85, 87].getD k 0) ((show ∀ k, k < 5 → tables_1[[79, 81, 83, 85, 87].getD k 0]? = some (u_lay "FrameVerifier$Flow" F_Fl k) by decide +kernel) k hk) ((show ∀ k, k < 5 → goodWord (u_lay "FrameVerifier$Flow" F_Fl k) = true by decide +kernel) k hk)) k hk
def F_Fr : u_T := fun k => match k with
  | 0 => ("FrameVerifier$Frame", "owner", "I", false)
  | 1 => ("FrameVerifier$Frame", "address", "I", false)
  | 2 => ("FrameVerifier$Frame", "types", "I", false)
  | _ => ("FrameVerifier$Frame", "values", "[I", true)
def t_Fr : Nat → FieldType := fun k => match k with
  | 0 => .int
  | 1 => .int
  | 2 => .int
  | _ => (.array .int)
theorem n_Fr : ∀ a, a < 4 → ∀ b, b < 4 → a ≠ b → (F_Fr a).2.1 ≠ (F_Fr b).2.1 := by decide +kernel
theorem t_Fr_ok : ∀ k, k < 4 → parseFieldDescriptor (F_Fr k).2.2.1 = some (t_Fr k) := by decide +kernel
theorem i_Fr : ∀ w ∈ u_ws "FrameVerifier$Frame" F_Fr 4, w ∈ wG := by
  intro w hw
  obtain ⟨k, hk, rfl⟩ := List.mem_map.mp hw
  have hk := List.mem_range.mp hk
  exact (show ∀ k, k < 4 → u_lay "FrameVerifier$Frame" F_Fr k ∈ wG from fun k hk => wg_t ([112, 114, 116, 118].getD k 0) ((show ∀ k, k < 4 → tables_1[[112, 114, 116, 118].getD k 0]? = some (u_lay "FrameVerifier$Frame" F_Fr k) by decide +kernel) k hk) ((show ∀ k, k < 4 → goodWord (u_lay "FrameVerifier$Frame" F_Fr k) = true by decide +kernel) k hk)) k hk
def F_Ma : u_T := fun k => match k with
  | 0 => ("FrameVerifier$Machine", "depth", "I", false)
  | 1 => ("FrameVerifier$Machine", "used", "I", false)
  | 2 => ("FrameVerifier$Machine", "result", "I", false)
  | 3 => ("FrameVerifier$Machine", "code", "LFrameVerifier$Code;", true)
  | 4 => ("FrameVerifier$Machine", "frames", "[LFrameVerifier$Frame;", true)
  | _ => ("FrameVerifier$Machine", "elements", "[I", true)
def t_Ma : Nat → FieldType := fun k => match k with
  | 0 => .int
  | 1 => .int
  | 2 => .int
  | 3 => (.object "FrameVerifier$Code")
  | 4 => (.array (.object "FrameVerifier$Frame"))
  | _ => (.array .int)
theorem n_Ma : ∀ a, a < 6 → ∀ b, b < 6 → a ≠ b → (F_Ma a).2.1 ≠ (F_Ma b).2.1 := by decide +kernel
theorem t_Ma_ok : ∀ k, k < 6 → parseFieldDescriptor (F_Ma k).2.2.1 = some (t_Ma k) := by decide +kernel
theorem i_Ma : ∀ w ∈ u_ws "FrameVerifier$Machine" F_Ma 6, w ∈ wG := by
  intro w hw
  obtain ⟨k, hk, rfl⟩ := List.mem_map.mp hw
  have hk := List.mem_range.mp hk
  exact (show ∀ k, k < 6 → u_lay "FrameVerifier$Machine" F_Ma k ∈ wG from fun k hk => wg_t ([130, 132, 134, 136, 138, 140].getD k 0) ((show ∀ k, k < 6 → tables_1[[130, 132, 134, 136, 138, 140].getD k 0]? = some (u_lay "FrameVerifier$Machine" F_Ma k) by decide +kernel) k hk) ((show ∀ k, k < 6 → goodWord (u_lay "FrameVerifier$Machine" F_Ma k) = true by decide +kernel) k hk)) k hk
def F_Mo : u_T := fun k => match k with
  | 0 => ("FrameVerifierModel", "instructions", "I", false)
  | 1 => ("FrameVerifierModel", "op", "[I", true)
  | 2 => ("FrameVerifierModel", "number", "[I", true)
  | 3 => ("FrameVerifierModel", "there", "[Z", true)
  | 4 => ("FrameVerifierModel", "start", "[I", true)
  | 5 => ("FrameVerifierModel", "parameters", "[I", true)
  | 6 => ("FrameVerifierModel", "kinds", "[I", true)
  | 7 => ("FrameVerifierModel", "verified", "Z", false)
  | 8 => ("FrameVerifierModel", "height", "[I", true)
  | 9 => ("FrameVerifierModel", "types", "[I", true)
  | 10 => ("FrameVerifierModel", "waits", "[Z", true)
  | 11 => ("FrameVerifierModel", "high", "I", false)
  | 12 => ("FrameVerifierModel", "row", "[I", true)
  | 13 => ("FrameVerifierModel", "bad", "Z", false)
  | 14 => ("FrameVerifierModel", "goesBehind", "Z", false)
  | 15 => ("FrameVerifierModel", "goesTo", "I", false)
  | 16 => ("FrameVerifierModel", "frames", "I", false)
  | 17 => ("FrameVerifierModel", "routineOf", "[I", true)
  | 18 => ("FrameVerifierModel", "at", "[I", true)
  | 19 => ("FrameVerifierModel", "heightOf", "[I", true)
  | 20 => ("FrameVerifierModel", "value", "[I", true)
  | 21 => ("FrameVerifierModel", "kind", "[I", true)
  | 22 => ("FrameVerifierModel", "elements", "I", false)
  | 23 => ("FrameVerifierModel", "heap", "[I", true)
  | 24 => ("FrameVerifierModel", "result", "I", false)
  | 25 => ("FrameVerifierModel", "trap", "I", false)
  | _ => ("FrameVerifierModel", "thrown", "I", false)
def t_Mo : Nat → FieldType := fun k => match k with
  | 0 => .int
  | 1 => (.array .int)
  | 2 => (.array .int)
  | 3 => (.array .boolean)
  | 4 => (.array .int)
  | 5 => (.array .int)
  | 6 => (.array .int)
  | 7 => .boolean
  | 8 => (.array .int)
  | 9 => (.array .int)
  | 10 => (.array .boolean)
  | 11 => .int
  | 12 => (.array .int)
  | 13 => .boolean
  | 14 => .boolean
  | 15 => .int
  | 16 => .int
  | 17 => (.array .int)
  | 18 => (.array .int)
  | 19 => (.array .int)
  | 20 => (.array .int)
  | 21 => (.array .int)
  | 22 => .int
  | 23 => (.array .int)
  | 24 => .int
  | 25 => .int
  | _ => .int
theorem n_Mo : ∀ a, a < 27 → ∀ b, b < 27 → a ≠ b → (F_Mo a).2.1 ≠ (F_Mo b).2.1 := by decide +kernel
theorem t_Mo_ok : ∀ k, k < 27 → parseFieldDescriptor (F_Mo k).2.2.1 = some (t_Mo k) := by decide +kernel
theorem i_Mo : ∀ w ∈ u_ws "FrameVerifierModel" F_Mo 27, w ∈ wG := by
  intro w hw
  obtain ⟨k, hk, rfl⟩ := List.mem_map.mp hw
  have hk := List.mem_range.mp hk
  exact (show ∀ k, k < 27 → u_lay "FrameVerifierModel" F_Mo k ∈ wG from fun k hk => wg_t ([768, 770, 772, 774, 776, 778, 780, 782, 784, 786, 788, 790, 792, 794, 796, 798, 800, 802, 804, 806, 808, 810, 812, 814, 816, 818, 820].getD k 0) ((show ∀ k, k < 27 → tables_1[[768, 770, 772, 774, 776, 778, 780, 782, 784, 786, 788, 790, 792, 794, 796, 798, 800, 802, 804, 806, 808, 810, 812, 814, 816, 818, 820].getD k 0]? = some (u_lay "FrameVerifierModel" F_Mo k) by decide +kernel) k hk) ((show ∀ k, k < 27 → goodWord (u_lay "FrameVerifierModel" F_Mo k) = true by decide +kernel) k hk)) k hk
abbrev cls : List vw_C := [("FrameVerifier", F_FV, 4), ("FrameVerifier$Code", F_Co, 7), ("FrameVerifier$Flow", F_Fl, 5), ("FrameVerifier$Frame", F_Fr, 4), ("FrameVerifier$Machine", F_Ma, 6), ("FrameVerifierModel", F_Mo, 27)]
