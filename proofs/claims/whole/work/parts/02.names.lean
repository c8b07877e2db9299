/-! ===== the tables' words: the good ones, and links across a nest ===== -/
def lw_good : List Cond := lw_tbl.filter goodWord
def evk : Cond → Bool
  | .fieldLinkNest .. | .methodLinkNest .. | .castable .. | .declares .. => true
  | _ => false
def okw (w : Cond) : Bool := goodWord w || evk w
theorem evk_on {w : Cond} (h : evk w = true) : w.onTables = true := by
  cases w <;> first | rfl | (exact absurd h (by decide)) | (simp [evk] at h)
theorem evk_warm {w : Cond} (h : evk w = true) {s U : State} (hW : s.WarmedH U.vm) (hZ : va_Nw w s) : va_Nw w U := by
  cases w <;> first | exact va_Nw.warmF hW hZ | exact va_Nw.warmM hW hZ | exact va_Nw.warmC hW hZ | exact va_Nw.warmD hW hZ | (simp [evk] at h)
theorem okw_warm {w : Cond} (h : okw w = true) {s U : State} (hW : s.WarmedH U.vm) (hZ : w.before #[] s = true) : w.before #[] U = true := by
  simp only [okw, Bool.or_eq_true] at h
  rcases h with h | h
  · exact word_at hW (good_of_word h) hZ
  · exact evk_warm h hW hZ
theorem okw_any {w : Cond} (h : okw w = true) {U : State} {args : Array Value} (hZ : w.before #[] U = true) : w.before args U = true := by
  simp only [okw, Bool.or_eq_true] at h
  rcases h with h | h
  · exact word_at (State.WarmedH.refl U) (good_of_word h) hZ
  · exact va_Nw.use (evk_on h) hZ
theorem gm {l : List Cond} (h : ∀ w ∈ l, w ∈ lw_tbl ∧ goodWord w = true) : GoodIn lw_good l := fun w hw => ⟨List.mem_filter.mpr (h w hw), good_of_word (h w hw).2⟩
abbrev RX0 : String := "DrawShares"
def TX0 : u_T := fun k => match k with
  | 0 => ("DrawShares", "shares", "LDrawShares$Shares;", true)
  | 1 => ("DrawShares", "acts", "LDrawShares$Acts;", true)
  | 2 => ("DrawShares", "told", "LDrawShares$Told;", true)
  | 3 => ("DrawShares", "stopAhead", "I", false)
  | 4 => ("DrawShares", "goodRuns", "I", false)
  | _ => ("DrawShares", "refusedRuns", "I", false)
def tyX0 : Nat → FieldType := fun k => match k with
  | 0 => .object "DrawShares$Shares"
  | 1 => .object "DrawShares$Acts"
  | 2 => .object "DrawShares$Told"
  | 3 => .int
  | 4 => .int
  | _ => .int
theorem nmX0 : ∀ a, a < 6 → ∀ b, b < 6 → a ≠ b → (TX0 a).2.1 ≠ (TX0 b).2.1 := by decide +kernel
theorem tyX0_ok : ∀ k, k < 6 → parseFieldDescriptor (TX0 k).2.2.1 = some (tyX0 k) := by decide +kernel
theorem inX0_t : ∀ w ∈ u_ws RX0 TX0 6, w ∈ lw_tbl := by decide +kernel
theorem inX0_g : ∀ w ∈ u_ws RX0 TX0 6, goodWord w = true := by decide +kernel
theorem inX0 : ∀ w ∈ u_ws RX0 TX0 6, w ∈ lw_good := fun w h => List.mem_filter.mpr ⟨inX0_t w h, inX0_g w h⟩
abbrev RX1 : String := "DrawShares$Shares"
def TX1 : u_T := fun k => match k with
  | 0 => ("DrawShares$Shares", "size", "I", true)
  | 1 => ("DrawShares$Shares", "work", "[I", true)
  | 2 => ("DrawShares$Shares", "seed", "[I", true)
  | 3 => ("DrawShares$Shares", "bits", "[I", true)
  | 4 => ("DrawShares$Shares", "lossStep", "[I", true)
  | _ => ("DrawShares$Shares", "losses", "[I", true)
def tyX1 : Nat → FieldType := fun k => match k with
  | 0 => .int
  | 1 => .array .int
  | 2 => .array .int
  | 3 => .array .int
  | 4 => .array .int
  | _ => .array .int
theorem nmX1 : ∀ a, a < 6 → ∀ b, b < 6 → a ≠ b → (TX1 a).2.1 ≠ (TX1 b).2.1 := by decide +kernel
theorem tyX1_ok : ∀ k, k < 6 → parseFieldDescriptor (TX1 k).2.2.1 = some (tyX1 k) := by decide +kernel
theorem inX1_t : ∀ w ∈ u_ws RX1 TX1 6, w ∈ lw_tbl := by decide +kernel
theorem inX1_g : ∀ w ∈ u_ws RX1 TX1 6, goodWord w = true := by decide +kernel
theorem inX1 : ∀ w ∈ u_ws RX1 TX1 6, w ∈ lw_good := fun w h => List.mem_filter.mpr ⟨inX1_t w h, inX1_g w h⟩
abbrev RX2 : String := "DrawShares$Acts"
def TX2 : u_T := fun k => match k with
  | 0 => ("DrawShares$Acts", "rank", "[I", true)
  | 1 => ("DrawShares$Acts", "addend", "[I", true)
  | _ => ("DrawShares$Acts", "size", "I", false)
def tyX2 : Nat → FieldType := fun k => match k with
  | 0 => .array .int
  | 1 => .array .int
  | _ => .int
theorem nmX2 : ∀ a, a < 3 → ∀ b, b < 3 → a ≠ b → (TX2 a).2.1 ≠ (TX2 b).2.1 := by decide +kernel
theorem tyX2_ok : ∀ k, k < 3 → parseFieldDescriptor (TX2 k).2.2.1 = some (tyX2 k) := by decide +kernel
theorem inX2_t : ∀ w ∈ u_ws RX2 TX2 3, w ∈ lw_tbl := by decide +kernel
theorem inX2_g : ∀ w ∈ u_ws RX2 TX2 3, goodWord w = true := by decide +kernel
theorem inX2 : ∀ w ∈ u_ws RX2 TX2 3, w ∈ lw_good := fun w h => List.mem_filter.mpr ⟨inX2_t w h, inX2_g w h⟩
abbrev RX3 : String := "DrawShares$Told"
def TX3 : u_T := fun k => match k with
  | 0 => ("DrawShares$Told", "values", "[I", true)
  | 1 => ("DrawShares$Told", "begins", "[I", true)
  | 2 => ("DrawShares$Told", "actsCame", "[I", true)
  | 3 => ("DrawShares$Told", "ready", "Z", false)
  | 4 => ("DrawShares$Told", "sum", "J", false)
  | 5 => ("DrawShares$Told", "joinedShares", "I", false)
  | 6 => ("DrawShares$Told", "stepsDone", "I", false)
  | _ => ("DrawShares$Told", "workersLeft", "I", false)
def tyX3 : Nat → FieldType := fun k => match k with
  | 0 => .array .int
  | 1 => .array .int
  | 2 => .array .int
  | 3 => .boolean
  | 4 => .long
  | 5 => .int
  | 6 => .int
  | _ => .int
theorem nmX3 : ∀ a, a < 8 → ∀ b, b < 8 → a ≠ b → (TX3 a).2.1 ≠ (TX3 b).2.1 := by decide +kernel
theorem tyX3_ok : ∀ k, k < 8 → parseFieldDescriptor (TX3 k).2.2.1 = some (tyX3 k) := by decide +kernel
theorem inX3_t : ∀ w ∈ u_ws RX3 TX3 8, w ∈ lw_tbl := by decide +kernel
theorem inX3_g : ∀ w ∈ u_ws RX3 TX3 8, goodWord w = true := by decide +kernel
theorem inX3 : ∀ w ∈ u_ws RX3 TX3 8, w ∈ lw_good := fun w h => List.mem_filter.mpr ⟨inX3_t w h, inX3_g w h⟩
abbrev RM0 : String := "DrawSharesModel"
def TM0 : u_T := fun k => match k with
  | 0 => ("DrawSharesModel", "thrown", "I", false)
  | 1 => ("DrawSharesModel", "shares", "I", true)
  | 2 => ("DrawSharesModel", "work", "[I", true)
  | 3 => ("DrawSharesModel", "seed", "[I", true)
  | 4 => ("DrawSharesModel", "bits", "[I", true)
  | 5 => ("DrawSharesModel", "failStep", "[I", true)
  | 6 => ("DrawSharesModel", "failTimes", "[I", true)
  | 7 => ("DrawSharesModel", "acts", "I", false)
  | 8 => ("DrawSharesModel", "rank", "[I", true)
  | 9 => ("DrawSharesModel", "actValue", "[I", true)
  | 10 => ("DrawSharesModel", "stop", "I", false)
  | 11 => ("DrawSharesModel", "runs", "I", false)
  | 12 => ("DrawSharesModel", "refused", "I", false)
  | 13 => ("DrawSharesModel", "sum", "J", false)
  | 14 => ("DrawSharesModel", "many", "I", false)
  | 15 => ("DrawSharesModel", "steps", "I", false)
  | 16 => ("DrawSharesModel", "left", "I", false)
  | 17 => ("DrawSharesModel", "value", "[I", true)
  | 18 => ("DrawSharesModel", "begun", "[I", true)
  | _ => ("DrawSharesModel", "came", "[I", true)
def tyM0 : Nat → FieldType := fun k => match k with
  | 0 => .int
  | 1 => .int
  | 2 => .array .int
  | 3 => .array .int
  | 4 => .array .int
  | 5 => .array .int
  | 6 => .array .int
  | 7 => .int
  | 8 => .array .int
  | 9 => .array .int
  | 10 => .int
  | 11 => .int
  | 12 => .int
  | 13 => .long
  | 14 => .int
  | 15 => .int
  | 16 => .int
  | 17 => .array .int
  | 18 => .array .int
  | _ => .array .int
theorem nmM0 : ∀ a, a < 20 → ∀ b, b < 20 → a ≠ b → (TM0 a).2.1 ≠ (TM0 b).2.1 := by decide +kernel
theorem tyM0_ok : ∀ k, k < 20 → parseFieldDescriptor (TM0 k).2.2.1 = some (tyM0 k) := by decide +kernel
theorem inM0_t : ∀ w ∈ u_ws RM0 TM0 20, w ∈ lw_tbl := by decide +kernel
theorem inM0_g : ∀ w ∈ u_ws RM0 TM0 20, goodWord w = true := by decide +kernel
theorem inM0 : ∀ w ∈ u_ws RM0 TM0 20, w ∈ lw_good := fun w h => List.mem_filter.mpr ⟨inM0_t w h, inM0_g w h⟩
abbrev RL : String := "DrawSharesLaw"
abbrev RJ0 : String := "java/util/Arrays"
abbrev vwCl : List vw_C := [(RX0, TX0, 6), (RX1, TX1, 6), (RX2, TX2, 3), (RX3, TX3, 8), (RM0, TM0, 20)]
abbrev cX0_init : ByteArray := prog_1_method_1_code
abbrev yX0_init : MethodName := ⟨RX0, "<init>", "(I)V"⟩
abbrev wsX0_init : List Cond := [.code yX0_init cX0_init 3 none]
abbrev cX0_share : ByteArray := prog_1_method_2_code
abbrev yX0_share : MethodName := ⟨RX0, "share", "(IIII)I"⟩
abbrev wsX0_share : List Cond := [.code yX0_share cX0_share 6 (some .int)]
abbrev cX0_fails : ByteArray := prog_1_method_3_code
abbrev yX0_fails : MethodName := ⟨RX0, "fails", "(III)I"⟩
abbrev wsX0_fails : List Cond := [.code yX0_fails cX0_fails 5 (some .int)]
abbrev cX0_act : ByteArray := prog_1_method_4_code
abbrev yX0_act : MethodName := ⟨RX0, "act", "(II)I"⟩
abbrev wsX0_act : List Cond := [.code yX0_act cX0_act 3 (some .int)]
abbrev cX0_stop : ByteArray := prog_1_method_5_code
abbrev yX0_stop : MethodName := ⟨RX0, "stop", "(I)I"⟩
abbrev wsX0_stop : List Cond := [.code yX0_stop cX0_stop 3 (some .int)]
abbrev cX0_run : ByteArray := prog_1_method_6_code
abbrev yX0_run : MethodName := ⟨RX0, "run", "(II)I"⟩
abbrev wsX0_run : List Cond := [.code yX0_run cX0_run 4 (some .int)]
abbrev cX0_joined : ByteArray := prog_1_method_7_code
abbrev yX0_joined : MethodName := ⟨RX0, "joined", "()J"⟩
abbrev wsX0_joined : List Cond := [.code yX0_joined cX0_joined 1 (some .long)]
abbrev cX0_many : ByteArray := prog_1_method_8_code
abbrev yX0_many : MethodName := ⟨RX0, "many", "()I"⟩
abbrev wsX0_many : List Cond := [.code yX0_many cX0_many 1 (some .int)]
abbrev cX0_value : ByteArray := prog_1_method_9_code
abbrev yX0_value : MethodName := ⟨RX0, "value", "(I)I"⟩
abbrev wsX0_value : List Cond := [.code yX0_value cX0_value 2 (some .int)]
abbrev cX0_chain : ByteArray := prog_1_method_10_code
abbrev yX0_chain : MethodName := ⟨RX0, "chain", "(II)J"⟩
abbrev wsX0_chain : List Cond := [.code yX0_chain cX0_chain 3 (some .long)]
abbrev cX0_came : ByteArray := prog_1_method_11_code
abbrev yX0_came : MethodName := ⟨RX0, "came", "(I)I"⟩
abbrev wsX0_came : List Cond := [.code yX0_came cX0_came 2 (some .int)]
abbrev cX0_begun : ByteArray := prog_1_method_12_code
abbrev yX0_begun : MethodName := ⟨RX0, "begun", "(I)I"⟩
abbrev wsX0_begun : List Cond := [.code yX0_begun cX0_begun 2 (some .int)]
abbrev cX0_steps : ByteArray := prog_1_method_13_code
abbrev yX0_steps : MethodName := ⟨RX0, "steps", "(I)I"⟩
abbrev wsX0_steps : List Cond := [.code yX0_steps cX0_steps 2 (some .int)]
abbrev cX0_count : ByteArray := prog_1_method_14_code
abbrev yX0_count : MethodName := ⟨RX0, "count", "(I)I"⟩
abbrev wsX0_count : List Cond := [.code yX0_count cX0_count 2 (some .int)]
abbrev cX0_needShare : ByteArray := prog_1_method_15_code
abbrev yX0_needShare : MethodName := ⟨RX0, "needShare", "(I)V"⟩
abbrev wsX0_needShare : List Cond := [.code yX0_needShare cX0_needShare 2 none]
abbrev cX0_needRun : ByteArray := prog_1_method_16_code
abbrev yX0_needRun : MethodName := ⟨RX0, "needRun", "()V"⟩
abbrev wsX0_needRun : List Cond := [.code yX0_needRun cX0_needRun 1 none]
abbrev cX1_init : ByteArray := prog_3_method_1_code
abbrev yX1_init : MethodName := ⟨RX1, "<init>", "(I)V"⟩
abbrev wsX1_init : List Cond := [.code yX1_init cX1_init 2 none]
abbrev cX1_behind : ByteArray := prog_3_method_2_code
abbrev yX1_behind : MethodName := ⟨RX1, "behind", "(II)J"⟩
abbrev wsX1_behind : List Cond := [.code yX1_behind cX1_behind 6 (some .long)]
abbrev cX1_lastValue : ByteArray := prog_3_method_3_code
abbrev yX1_lastValue : MethodName := ⟨RX1, "lastValue", "(I)I"⟩
abbrev wsX1_lastValue : List Cond := [.code yX1_lastValue cX1_lastValue 2 (some .int)]
abbrev cX1_settles : ByteArray := prog_3_method_4_code
abbrev yX1_settles : MethodName := ⟨RX1, "settles", "(II)Z"⟩
abbrev wsX1_settles : List Cond := [.code yX1_settles cX1_settles 4 (some .boolean)]
abbrev cX1_allLosses : ByteArray := prog_3_method_5_code
abbrev yX1_allLosses : MethodName := ⟨RX1, "allLosses", "()I"⟩
abbrev wsX1_allLosses : List Cond := [.code yX1_allLosses cX1_allLosses 3 (some .int)]
abbrev cX1_stepsWithLosses : ByteArray := prog_3_method_6_code
abbrev yX1_stepsWithLosses : MethodName := ⟨RX1, "stepsWithLosses", "(I)I"⟩
abbrev wsX1_stepsWithLosses : List Cond := [.code yX1_stepsWithLosses cX1_stepsWithLosses 2 (some .int)]
abbrev cX2_init : ByteArray := prog_2_method_1_code
abbrev yX2_init : MethodName := ⟨RX2, "<init>", "()V"⟩
abbrev wsX2_init : List Cond := [.code yX2_init cX2_init 1 none]
abbrev cX2_append : ByteArray := prog_2_method_2_code
abbrev yX2_append : MethodName := ⟨RX2, "append", "(II)I"⟩
abbrev wsX2_append : List Cond := [.code yX2_append cX2_append 4 (some .int)]
abbrev cX3_init : ByteArray := prog_4_method_1_code
abbrev yX3_init : MethodName := ⟨RX3, "<init>", "(I)V"⟩
abbrev wsX3_init : List Cond := [.code yX3_init cX3_init 2 none]
abbrev cX3_doAll : ByteArray := prog_4_method_2_code
abbrev yX3_doAll : MethodName := ⟨RX3, "doAll", "(LDrawShares$Shares;)V"⟩
abbrev wsX3_doAll : List Cond := [.code yX3_doAll cX3_doAll 3 none]
abbrev cX3_joinAll : ByteArray := prog_4_method_3_code
abbrev yX3_joinAll : MethodName := ⟨RX3, "joinAll", "(LDrawShares$Shares;LDrawShares$Acts;I)I"⟩
abbrev wsX3_joinAll : List Cond := [.code yX3_joinAll cX3_joinAll 5 (some .int)]
abbrev cX3_letIn : ByteArray := prog_4_method_4_code
abbrev yX3_letIn : MethodName := ⟨RX3, "letIn", "(LDrawShares$Acts;I)V"⟩
abbrev wsX3_letIn : List Cond := [.code yX3_letIn cX3_letIn 4 none]
abbrev cM0_init : ByteArray := prog_6_method_1_code
abbrev yM0_init : MethodName := ⟨RM0, "<init>", "(I)V"⟩
abbrev wsM0_init : List Cond := [.code yM0_init cM0_init 3 none]
abbrev cM0_thrown : ByteArray := prog_6_method_2_code
abbrev yM0_thrown : MethodName := ⟨RM0, "thrown", "()I"⟩
abbrev wsM0_thrown : List Cond := [.code yM0_thrown cM0_thrown 1 (some .int)]
abbrev cM0_refuse : ByteArray := prog_6_method_3_code
abbrev yM0_refuse : MethodName := ⟨RM0, "refuse", "(I)I"⟩
abbrev wsM0_refuse : List Cond := [.code yM0_refuse cM0_refuse 2 (some .int)]
abbrev cM0_isShare : ByteArray := prog_6_method_4_code
abbrev yM0_isShare : MethodName := ⟨RM0, "isShare", "(I)Z"⟩
abbrev wsM0_isShare : List Cond := [.code yM0_isShare cM0_isShare 2 (some .boolean)]
abbrev cM0_in : ByteArray := prog_6_method_5_code
abbrev yM0_in : MethodName := ⟨RM0, "in", "(III)Z"⟩
abbrev wsM0_in : List Cond := [.code yM0_in cM0_in 3 (some .boolean)]
abbrev cM0_share : ByteArray := prog_6_method_6_code
abbrev yM0_share : MethodName := ⟨RM0, "share", "(IIII)I"⟩
abbrev wsM0_share : List Cond := [.code yM0_share cM0_share 6 (some .int)]
abbrev cM0_fails : ByteArray := prog_6_method_7_code
abbrev yM0_fails : MethodName := ⟨RM0, "fails", "(III)I"⟩
abbrev wsM0_fails : List Cond := [.code yM0_fails cM0_fails 5 (some .int)]
abbrev cM0_act : ByteArray := prog_6_method_8_code
abbrev yM0_act : MethodName := ⟨RM0, "act", "(II)I"⟩
abbrev wsM0_act : List Cond := [.code yM0_act cM0_act 3 (some .int)]
abbrev cM0_stop : ByteArray := prog_6_method_9_code
abbrev yM0_stop : MethodName := ⟨RM0, "stop", "(I)I"⟩
abbrev wsM0_stop : List Cond := [.code yM0_stop cM0_stop 3 (some .int)]
abbrev cM0_after : ByteArray := prog_6_method_10_code
abbrev yM0_after : MethodName := ⟨RM0, "after", "(II)J"⟩
abbrev wsM0_after : List Cond := [.code yM0_after cM0_after 6 (some .long)]
abbrev cM0_acted : ByteArray := prog_6_method_11_code
abbrev yM0_acted : MethodName := ⟨RM0, "acted", "(I)V"⟩
abbrev wsM0_acted : List Cond := [.code yM0_acted cM0_acted 3 none]
abbrev cM0_settles : ByteArray := prog_6_method_12_code
abbrev yM0_settles : MethodName := ⟨RM0, "settles", "(I)Z"⟩
abbrev wsM0_settles : List Cond := [.code yM0_settles cM0_settles 2 (some .boolean)]
abbrev cM0_join : ByteArray := prog_6_method_13_code
abbrev yM0_join : MethodName := ⟨RM0, "join", "()I"⟩
abbrev wsM0_join : List Cond := [.code yM0_join cM0_join 2 (some .int)]
abbrev cM0_run : ByteArray := prog_6_method_14_code
abbrev yM0_run : MethodName := ⟨RM0, "run", "(II)I"⟩
abbrev wsM0_run : List Cond := [.code yM0_run cM0_run 5 (some .int)]
abbrev cM0_isNone : ByteArray := prog_6_method_15_code
abbrev yM0_isNone : MethodName := ⟨RM0, "isNone", "()Z"⟩
abbrev wsM0_isNone : List Cond := [.code yM0_isNone cM0_isNone 1 (some .boolean)]
abbrev cM0_joined : ByteArray := prog_6_method_16_code
abbrev yM0_joined : MethodName := ⟨RM0, "joined", "()J"⟩
abbrev wsM0_joined : List Cond := [.code yM0_joined cM0_joined 1 (some .long)]
abbrev cM0_many : ByteArray := prog_6_method_17_code
abbrev yM0_many : MethodName := ⟨RM0, "many", "()I"⟩
abbrev wsM0_many : List Cond := [.code yM0_many cM0_many 1 (some .int)]
abbrev cM0_isRefused : ByteArray := prog_6_method_18_code
abbrev yM0_isRefused : MethodName := ⟨RM0, "isRefused", "(Z)Z"⟩
abbrev wsM0_isRefused : List Cond := [.code yM0_isRefused cM0_isRefused 2 (some .boolean)]
abbrev cM0_value : ByteArray := prog_6_method_19_code
abbrev yM0_value : MethodName := ⟨RM0, "value", "(I)I"⟩
abbrev wsM0_value : List Cond := [.code yM0_value cM0_value 2 (some .int)]
abbrev cM0_chain : ByteArray := prog_6_method_20_code
abbrev yM0_chain : MethodName := ⟨RM0, "chain", "(II)J"⟩
abbrev wsM0_chain : List Cond := [.code yM0_chain cM0_chain 3 (some .long)]
abbrev cM0_came : ByteArray := prog_6_method_21_code
abbrev yM0_came : MethodName := ⟨RM0, "came", "(I)I"⟩
abbrev wsM0_came : List Cond := [.code yM0_came cM0_came 2 (some .int)]
abbrev cM0_begun : ByteArray := prog_6_method_22_code
abbrev yM0_begun : MethodName := ⟨RM0, "begun", "(I)I"⟩
abbrev wsM0_begun : List Cond := [.code yM0_begun cM0_begun 2 (some .int)]
abbrev cM0_steps : ByteArray := prog_6_method_23_code
abbrev yM0_steps : MethodName := ⟨RM0, "steps", "(I)I"⟩
abbrev wsM0_steps : List Cond := [.code yM0_steps cM0_steps 2 (some .int)]
abbrev cM0_count : ByteArray := prog_6_method_24_code
abbrev yM0_count : MethodName := ⟨RM0, "count", "(I)I"⟩
abbrev wsM0_count : List Cond := [.code yM0_count cM0_count 2 (some .int)]
abbrev cL_cell : ByteArray := method_2_code
abbrev yL_cell : MethodName := ⟨RL, "cell", "([II)I"⟩
abbrev wsL_cell : List Cond := [.code yL_cell cL_cell 2 (some .int)]
abbrev cL_share : ByteArray := method_3_code
abbrev yL_share : MethodName := ⟨RL, "share", "(LDrawShares;IIII[J)I"⟩
abbrev wsL_share : List Cond := [.codeWith yL_share cL_share 7 (some .int) [(0, 14, 17, 13), (0, 14, 21, 15)]]
abbrev cL_fails : ByteArray := method_4_code
abbrev yL_fails : MethodName := ⟨RL, "fails", "(LDrawShares;III[J)I"⟩
abbrev wsL_fails : List Cond := [.codeWith yL_fails cL_fails 6 (some .int) [(0, 12, 15, 13), (0, 12, 19, 15)]]
abbrev cL_act : ByteArray := method_5_code
abbrev yL_act : MethodName := ⟨RL, "act", "(LDrawShares;II[J)I"⟩
abbrev wsL_act : List Cond := [.codeWith yL_act cL_act 5 (some .int) [(0, 10, 13, 13), (0, 10, 17, 25)]]
abbrev cL_stop : ByteArray := method_6_code
abbrev yL_stop : MethodName := ⟨RL, "stop", "(LDrawShares;I[J)I"⟩
abbrev wsL_stop : List Cond := [.codeWith yL_stop cL_stop 4 (some .int) [(0, 9, 12, 13)]]
abbrev cL_run : ByteArray := method_7_code
abbrev yL_run : MethodName := ⟨RL, "run", "(LDrawShares;II[J)I"⟩
abbrev wsL_run : List Cond := [.codeWith yL_run cL_run 5 (some .int) [(0, 10, 13, 15)]]
abbrev cL_joined : ByteArray := method_8_code
abbrev yL_joined : MethodName := ⟨RL, "joined", "(LDrawShares;[J)I"⟩
abbrev wsL_joined : List Cond := [.codeWith yL_joined cL_joined 3 (some .int) [(0, 7, 10, 25)]]
abbrev cL_many : ByteArray := method_9_code
abbrev yL_many : MethodName := ⟨RL, "many", "(LDrawShares;[J)I"⟩
abbrev wsL_many : List Cond := [.codeWith yL_many cL_many 3 (some .int) [(0, 8, 11, 25)]]
abbrev cL_value : ByteArray := method_10_code
abbrev yL_value : MethodName := ⟨RL, "value", "(LDrawShares;I[J)I"⟩
abbrev wsL_value : List Cond := [.codeWith yL_value cL_value 4 (some .int) [(0, 9, 12, 13), (0, 9, 15, 25)]]
abbrev cL_chain : ByteArray := method_11_code
abbrev yL_chain : MethodName := ⟨RL, "chain", "(LDrawShares;II[J)I"⟩
abbrev wsL_chain : List Cond := [.codeWith yL_chain cL_chain 5 (some .int) [(0, 9, 12, 13)]]
abbrev cL_came : ByteArray := method_12_code
abbrev yL_came : MethodName := ⟨RL, "came", "(LDrawShares;I[J)I"⟩
abbrev wsL_came : List Cond := [.codeWith yL_came cL_came 4 (some .int) [(0, 9, 12, 13), (0, 9, 15, 25)]]
abbrev cL_begun : ByteArray := method_13_code
abbrev yL_begun : MethodName := ⟨RL, "begun", "(LDrawShares;I[J)I"⟩
abbrev wsL_begun : List Cond := [.codeWith yL_begun cL_begun 4 (some .int) [(0, 9, 12, 13), (0, 9, 15, 25)]]
abbrev cL_steps : ByteArray := method_14_code
abbrev yL_steps : MethodName := ⟨RL, "steps", "(LDrawShares;I[J)I"⟩
abbrev wsL_steps : List Cond := [.codeWith yL_steps cL_steps 4 (some .int) [(0, 9, 12, 13), (0, 9, 15, 25)]]
abbrev cL_count : ByteArray := method_15_code
abbrev yL_count : MethodName := ⟨RL, "count", "(LDrawShares;I[J)I"⟩
abbrev wsL_count : List Cond := [.codeWith yL_count cL_count 4 (some .int) [(0, 9, 12, 13)]]
abbrev cL_law : ByteArray := code
abbrev yL_law : MethodName := ⟨RL, "law", "([I)Z"⟩
abbrev cJ0_fill : ByteArray := prog_15_method_103_code
abbrev yJ0_fill : MethodName := ⟨RJ0, "fill", "([II)V"⟩
abbrev wsJ0_fill : List Cond := [.code yJ0_fill cJ0_fill 4 none]
