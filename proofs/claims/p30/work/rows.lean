section
/-- over the whole library from the first part on -/
theorem zz_wide : True := by
  have := @Jvm.Example.RecCall.texts
  trivial
end
section
-- the tables words first
/-- a private method of a class that the tables say can be made, by its rows of tables_1 -/
def lw_okq (q : MethodName × Nat) : Prop := (q.1.cls ≠ "java/lang/invoke/MethodHandle" ∧ q.1.cls ≠ "java/lang/invoke/VarHandle") ∧ Cond.instantiable q.1.cls q.2 ∈ tables_1 ∧ Cond.privateMethod q.1 ∈ tables_1 ∧ Cond.instanceMethod q.1 ∈ tables_1
theorem lw_p0 : lw_okq (⟨"PanTales$Night", "actOn", "(LPanTales$Close;III)V"⟩, 6) := ⟨⟨by decide +kernel, by decide +kernel⟩, List.mem_of_getElem? (i := 82) (by decide +kernel), List.mem_of_getElem? (i := 321) (by decide +kernel), List.mem_of_getElem? (i := 322) (by decide +kernel)⟩
theorem lw_p1 : lw_okq (⟨"PanTales$Close", "warmBed", "(I)V"⟩, 12) := ⟨⟨by decide +kernel, by decide +kernel⟩, List.mem_of_getElem? (i := 21) (by decide +kernel), List.mem_of_getElem? (i := 337) (by decide +kernel), List.mem_of_getElem? (i := 338) (by decide +kernel)⟩
theorem lw_p2 : lw_okq (⟨"PanTales$Ways", "shortenPast", "(II)V"⟩, 3) := ⟨⟨by decide +kernel, by decide +kernel⟩, List.mem_of_getElem? (i := 113) (by decide +kernel), List.mem_of_getElem? (i := 396) (by decide +kernel), List.mem_of_getElem? (i := 397) (by decide +kernel)⟩
theorem lw_p3 : lw_okq (⟨"PanTales$Ways", "leastWay", "(II)I"⟩, 3) := ⟨⟨by decide +kernel, by decide +kernel⟩, List.mem_of_getElem? (i := 113) (by decide +kernel), List.mem_of_getElem? (i := 400) (by decide +kernel), List.mem_of_getElem? (i := 401) (by decide +kernel)⟩
theorem lw_p4 : lw_okq (⟨"PanTales$Ways", "warm", "(LPanTales$Close;III)V"⟩, 3) := ⟨⟨by decide +kernel, by decide +kernel⟩, List.mem_of_getElem? (i := 113) (by decide +kernel), List.mem_of_getElem? (i := 424) (by decide +kernel), List.mem_of_getElem? (i := 425) (by decide +kernel)⟩
theorem lw_p5 : lw_okq (⟨"PanTales$Ways", "heatLeft", "(II)I"⟩, 3) := ⟨⟨by decide +kernel, by decide +kernel⟩, List.mem_of_getElem? (i := 113) (by decide +kernel), List.mem_of_getElem? (i := 431) (by decide +kernel), List.mem_of_getElem? (i := 432) (by decide +kernel)⟩
theorem lw_p6 : lw_okq (⟨"PanTales$Ways", "goOn", "(LPanTales$Close;I)Z"⟩, 3) := ⟨⟨by decide +kernel, by decide +kernel⟩, List.mem_of_getElem? (i := 113) (by decide +kernel), List.mem_of_getElem? (i := 437) (by decide +kernel), List.mem_of_getElem? (i := 438) (by decide +kernel)⟩
theorem lw_p7 : lw_okq (⟨"PanTales$Ways", "findNeighbours", "(LPanTales$Close;)V"⟩, 3) := ⟨⟨by decide +kernel, by decide +kernel⟩, List.mem_of_getElem? (i := 113) (by decide +kernel), List.mem_of_getElem? (i := 459) (by decide +kernel), List.mem_of_getElem? (i := 460) (by decide +kernel)⟩
theorem lw_p8 : lw_okq (⟨"PanTales$Ways", "leadsTo", "(II)Z"⟩, 3) := ⟨⟨by decide +kernel, by decide +kernel⟩, List.mem_of_getElem? (i := 113) (by decide +kernel), List.mem_of_getElem? (i := 463) (by decide +kernel), List.mem_of_getElem? (i := 464) (by decide +kernel)⟩
theorem lw_p9 : lw_okq (⟨"PanTales$Sayings", "fadeAll", "(LPanTales$Close;)V"⟩, 4) := ⟨⟨by decide +kernel, by decide +kernel⟩, List.mem_of_getElem? (i := 129) (by decide +kernel), List.mem_of_getElem? (i := 515) (by decide +kernel), List.mem_of_getElem? (i := 516) (by decide +kernel)⟩
theorem lw_p10 : lw_okq (⟨"PanTales$Sayings", "isSo", "(LPanTales$Close;II)Z"⟩, 4) := ⟨⟨by decide +kernel, by decide +kernel⟩, List.mem_of_getElem? (i := 129) (by decide +kernel), List.mem_of_getElem? (i := 520) (by decide +kernel), List.mem_of_getElem? (i := 521) (by decide +kernel)⟩
theorem lw_p11 : lw_okq (⟨"PanTales$Sayings", "taleInBed", "(III)I"⟩, 4) := ⟨⟨by decide +kernel, by decide +kernel⟩, List.mem_of_getElem? (i := 129) (by decide +kernel), List.mem_of_getElem? (i := 529) (by decide +kernel), List.mem_of_getElem? (i := 530) (by decide +kernel)⟩
theorem lw_p12 : lw_okq (⟨"PanTales$Chances", "leastTake", "(I)I"⟩, 3) := ⟨⟨by decide +kernel, by decide +kernel⟩, List.mem_of_getElem? (i := 148) (by decide +kernel), List.mem_of_getElem? (i := 572) (by decide +kernel), List.mem_of_getElem? (i := 573) (by decide +kernel)⟩
def lw_privs_1 : List (MethodName × Nat) := [(⟨"PanTales$Night", "actOn", "(LPanTales$Close;III)V"⟩, 6), (⟨"PanTales$Close", "warmBed", "(I)V"⟩, 12), (⟨"PanTales$Ways", "shortenPast", "(II)V"⟩, 3), (⟨"PanTales$Ways", "leastWay", "(II)I"⟩, 3), (⟨"PanTales$Ways", "warm", "(LPanTales$Close;III)V"⟩, 3), (⟨"PanTales$Ways", "heatLeft", "(II)I"⟩, 3), (⟨"PanTales$Ways", "goOn", "(LPanTales$Close;I)Z"⟩, 3), (⟨"PanTales$Ways", "findNeighbours", "(LPanTales$Close;)V"⟩, 3), (⟨"PanTales$Ways", "leadsTo", "(II)Z"⟩, 3), (⟨"PanTales$Sayings", "fadeAll", "(LPanTales$Close;)V"⟩, 4), (⟨"PanTales$Sayings", "isSo", "(LPanTales$Close;II)Z"⟩, 4), (⟨"PanTales$Sayings", "taleInBed", "(III)I"⟩, 4), (⟨"PanTales$Chances", "leastTake", "(I)I"⟩, 3)]
theorem lw_r1 : ∀ q ∈ lw_privs_1, lw_okq q := List.forall_mem_cons.mpr ⟨lw_p0, List.forall_mem_cons.mpr ⟨lw_p1, List.forall_mem_cons.mpr ⟨lw_p2, List.forall_mem_cons.mpr ⟨lw_p3, List.forall_mem_cons.mpr ⟨lw_p4, List.forall_mem_cons.mpr ⟨lw_p5, List.forall_mem_cons.mpr ⟨lw_p6, List.forall_mem_cons.mpr ⟨lw_p7, List.forall_mem_cons.mpr ⟨lw_p8, List.forall_mem_cons.mpr ⟨lw_p9, List.forall_mem_cons.mpr ⟨lw_p10, List.forall_mem_cons.mpr ⟨lw_p11, List.forall_mem_cons.mpr ⟨lw_p12, fun _ h => absurd h List.not_mem_nil⟩⟩⟩⟩⟩⟩⟩⟩⟩⟩⟩⟩⟩
def lw_privs : List (MethodName × Nat) := lw_privs_1
def lw_tbl : List Cond := k2_sels lw_privs ++ tables_1
theorem lw_privs_ok : ∀ q ∈ lw_privs, lw_okq q := lw_r1
/-! ===== BEGIN words of one list among another's, by their places ===== -/
theorem goodIn_r {big : List Cond} (ws : List Cond) (ps : List Nat) (hp : ws = ps.filterMap (fun i => big[i]?)) (h : ws.all goodWord = true) : GoodIn big ws := by
  intro w hw
  have h1 := List.all_eq_true.mp h w hw
  rw [hp] at hw
  obtain ⟨i, -, hi⟩ := List.mem_filterMap.mp hw
  have hm : w ∈ big := by first | exact List.mem_of_getElem? hi | exact List.getElem?_mem hi
  exact ⟨hm, good_of_word h1⟩
theorem goodIn_app {big a b : List Cond} (ha : GoodIn big a) (hb : GoodIn big b) : GoodIn big (a ++ b) := fun w h => (List.mem_append.mp h).elim (ha w) (hb w)
theorem goodIn_ca {big a b : List Cond} {c : Cond} (ha : GoodIn big (c :: a)) (hb : GoodIn big b) : GoodIn big (c :: (a ++ b)) := fun w h => (List.mem_cons.mp h).elim (fun e => ha w (List.mem_cons.mpr (Or.inl e))) (fun h => (List.mem_append.mp h).elim (fun h => ha w (List.mem_cons.mpr (Or.inr h))) (hb w))
theorem goodIn_sub {big ws : List Cond} (hm : ∀ w ∈ ws, w ∈ big) (h : ws.all goodWord = true) : GoodIn big ws := fun w hw => ⟨hm w hw, good_of_word (List.all_eq_true.mp h w hw)⟩
/-! ===== END ===== -/

/-! ===== BEGIN printed: names, fields, word lists, decode rows ===== -/
def RX0 : String := "PanTales$Chances"
def TX0 : u_T := fun k => match k with
  | 0 => ("PanTales$Chances", "lastDoes", "[J", true)
  | 1 => ("PanTales$Chances", "lastNot", "[J", true)
  | _ => ("PanTales$Chances", "takes", "[I", true)
def tyX0 : Nat → FieldType := fun k => match k with
  | 0 => .array .long
  | 1 => .array .long
  | _ => .array .int
abbrev wsX00 : List Cond := u_ws RX0 TX0 3
theorem nmX0 : ∀ a, a < 3 → ∀ b, b < 3 → a ≠ b → (TX0 a).2.1 ≠ (TX0 b).2.1 := by decide +kernel
theorem tyX0_ok : ∀ k, k < 3 → parseFieldDescriptor (TX0 k).2.2.1 = some (tyX0 k) := by decide +kernel
abbrev cX0_init : ByteArray := prog_2_method_1_code
def yX0_init : MethodName := ⟨RX0, "<init>", "()V"⟩
abbrev cX0_firstTake : ByteArray := prog_2_method_5_code
def yX0_firstTake : MethodName := ⟨RX0, "firstTake", "(I)I"⟩
abbrev cX0_leastTake : ByteArray := prog_2_method_6_code
def yX0_leastTake : MethodName := ⟨RX0, "leastTake", "(I)I"⟩
def RX1 : String := "PanTales$Close"
def TX1 : u_T := fun k => match k with
  | 0 => ("PanTales$Close", "roads", "[I", true)
  | 1 => ("PanTales$Close", "doubts", "[I", true)
  | 2 => ("PanTales$Close", "damps", "[I", true)
  | 3 => ("PanTales$Close", "beliefs", "[I", true)
  | 4 => ("PanTales$Close", "fadings", "[I", true)
  | 5 => ("PanTales$Close", "sightBeds", "[I", true)
  | 6 => ("PanTales$Close", "sightTales", "[I", true)
  | 7 => ("PanTales$Close", "sights", "I", false)
  | 8 => ("PanTales$Close", "place", "I", false)
  | 9 => ("PanTales$Close", "heat", "I", false)
  | 10 => ("PanTales$Close", "tale", "I", false)
  | _ => ("PanTales$Close", "mornings", "I", false)
def tyX1 : Nat → FieldType := fun k => match k with
  | 0 => .array .int
  | 1 => .array .int
  | 2 => .array .int
  | 3 => .array .int
  | 4 => .array .int
  | 5 => .array .int
  | 6 => .array .int
  | 7 => .int
  | 8 => .int
  | 9 => .int
  | 10 => .int
  | _ => .int
abbrev wsX10 : List Cond := u_ws RX1 TX1 12
theorem nmX1 : ∀ a, a < 12 → ∀ b, b < 12 → a ≠ b → (TX1 a).2.1 ≠ (TX1 b).2.1 := by decide +kernel
theorem tyX1_ok : ∀ k, k < 12 → parseFieldDescriptor (TX1 k).2.2.1 = some (tyX1 k) := by decide +kernel
abbrev cX1_init : ByteArray := prog_3_method_1_code
def yX1_init : MethodName := ⟨RX1, "<init>", "()V"⟩
abbrev cX1_copyFrom : ByteArray := prog_3_method_2_code
def yX1_copyFrom : MethodName := ⟨RX1, "copyFrom", "(LPanTales$Close;)V"⟩
abbrev cX1_longBetween : ByteArray := prog_3_method_3_code
def yX1_longBetween : MethodName := ⟨RX1, "longBetween", "(II)I"⟩
abbrev cX1_layRoad : ByteArray := prog_3_method_4_code
def yX1_layRoad : MethodName := ⟨RX1, "layRoad", "(III)V"⟩
abbrev cX1_doubtOf : ByteArray := prog_3_method_5_code
def yX1_doubtOf : MethodName := ⟨RX1, "doubtOf", "(I)I"⟩
abbrev cX1_isDamp : ByteArray := prog_3_method_6_code
def yX1_isDamp : MethodName := ⟨RX1, "isDamp", "(I)Z"⟩
abbrev cX1_beliefOf : ByteArray := prog_3_method_7_code
def yX1_beliefOf : MethodName := ⟨RX1, "beliefOf", "(I)I"⟩
abbrev cX1_furnish : ByteArray := prog_3_method_8_code
def yX1_furnish : MethodName := ⟨RX1, "furnish", "(III)V"⟩
abbrev cX1_convince : ByteArray := prog_3_method_9_code
def yX1_convince : MethodName := ⟨RX1, "convince", "(II)V"⟩
abbrev cX1_houseFact : ByteArray := prog_3_method_10_code
def yX1_houseFact : MethodName := ⟨RX1, "houseFact", "(II)I"⟩
abbrev cX1_panFact : ByteArray := prog_3_method_11_code
def yX1_panFact : MethodName := ⟨RX1, "panFact", "(I)I"⟩
abbrev cX1_believersOf : ByteArray := prog_3_method_12_code
def yX1_believersOf : MethodName := ⟨RX1, "believersOf", "(I)I"⟩
abbrev cX1_fadesInto : ByteArray := prog_3_method_16_code
def yX1_fadesInto : MethodName := ⟨RX1, "fadesInto", "(I)I"⟩
abbrev cX1_letFade : ByteArray := prog_3_method_17_code
def yX1_letFade : MethodName := ⟨RX1, "letFade", "(II)V"⟩
abbrev cX1_behindStirs : ByteArray := prog_3_method_18_code
def yX1_behindStirs : MethodName := ⟨RX1, "behindStirs", "(II)I"⟩
abbrev cX1_stirsToRing : ByteArray := prog_3_method_19_code
def yX1_stirsToRing : MethodName := ⟨RX1, "stirsToRing", "(I)I"⟩
abbrev cX1_stirsOfRing : ByteArray := prog_3_method_20_code
def yX1_stirsOfRing : MethodName := ⟨RX1, "stirsOfRing", "(I)I"⟩
abbrev cX1_sightCount : ByteArray := prog_3_method_21_code
def yX1_sightCount : MethodName := ⟨RX1, "sightCount", "()I"⟩
abbrev cX1_addSight : ByteArray := prog_3_method_22_code
def yX1_addSight : MethodName := ⟨RX1, "addSight", "(II)Z"⟩
abbrev cX1_dropSights : ByteArray := prog_3_method_23_code
def yX1_dropSights : MethodName := ⟨RX1, "dropSights", "()V"⟩
abbrev cX1_sightBed : ByteArray := prog_3_method_24_code
def yX1_sightBed : MethodName := ⟨RX1, "sightBed", "(I)I"⟩
abbrev cX1_sightTale : ByteArray := prog_3_method_25_code
def yX1_sightTale : MethodName := ⟨RX1, "sightTale", "(I)I"⟩
abbrev cX1_reasonAgainst : ByteArray := prog_3_method_26_code
def yX1_reasonAgainst : MethodName := ⟨RX1, "reasonAgainst", "(II)I"⟩
abbrev cX1_act : ByteArray := prog_3_method_27_code
def yX1_act : MethodName := ⟨RX1, "act", "(III)V"⟩
abbrev cX1_warmBed : ByteArray := prog_3_method_28_code
def yX1_warmBed : MethodName := ⟨RX1, "warmBed", "(I)V"⟩
abbrev cX1_isConvinced : ByteArray := prog_3_method_29_code
def yX1_isConvinced : MethodName := ⟨RX1, "isConvinced", "(II)Z"⟩
def RX2 : String := "PanTales$Night"
def TX2 : u_T := fun k => match k with
  | 0 => ("PanTales$Night", "acts", "I", false)
  | 1 => ("PanTales$Night", "beds", "I", false)
  | 2 => ("PanTales$Night", "hinderedAct", "I", false)
  | 3 => ("PanTales$Night", "reason", "I", false)
  | 4 => ("PanTales$Night", "otherAct", "I", false)
  | _ => ("PanTales$Night", "otherHouse", "I", false)
def tyX2 : Nat → FieldType := fun k => match k with
  | 0 => .int
  | 1 => .int
  | 2 => .int
  | 3 => .int
  | 4 => .int
  | _ => .int
abbrev wsX20 : List Cond := u_ws RX2 TX2 6
theorem nmX2 : ∀ a, a < 6 → ∀ b, b < 6 → a ≠ b → (TX2 a).2.1 ≠ (TX2 b).2.1 := by decide +kernel
theorem tyX2_ok : ∀ k, k < 6 → parseFieldDescriptor (TX2 k).2.2.1 = some (tyX2 k) := by decide +kernel
abbrev cX2_init : ByteArray := prog_4_method_1_code
def yX2_init : MethodName := ⟨RX2, "<init>", "()V"⟩
abbrev cX2_pass : ByteArray := prog_4_method_2_code
def yX2_pass : MethodName := ⟨RX2, "pass", "(LPanTales$Pad;LPanTales$Close;LPanTales$Close;)I"⟩
abbrev cX2_actOn : ByteArray := prog_4_method_3_code
def yX2_actOn : MethodName := ⟨RX2, "actOn", "(LPanTales$Close;III)V"⟩
def RX3 : String := "PanTales$Pad"
def TX3 : u_T := fun k => match k with
  | 0 => ("PanTales$Pad", "signs", "[I", true)
  | _ => ("PanTales$Pad", "count", "I", false)
def tyX3 : Nat → FieldType := fun k => match k with
  | 0 => .array .int
  | _ => .int
abbrev wsX30 : List Cond := u_ws RX3 TX3 2
theorem nmX3 : ∀ a, a < 2 → ∀ b, b < 2 → a ≠ b → (TX3 a).2.1 ≠ (TX3 b).2.1 := by decide +kernel
theorem tyX3_ok : ∀ k, k < 2 → parseFieldDescriptor (TX3 k).2.2.1 = some (tyX3 k) := by decide +kernel
abbrev cX3_init : ByteArray := prog_5_method_1_code
def yX3_init : MethodName := ⟨RX3, "<init>", "()V"⟩
abbrev cX3_size : ByteArray := prog_5_method_2_code
def yX3_size : MethodName := ⟨RX3, "size", "()I"⟩
abbrev cX3_add : ByteArray := prog_5_method_3_code
def yX3_add : MethodName := ⟨RX3, "add", "(I)Z"⟩
abbrev cX3_clear : ByteArray := prog_5_method_4_code
def yX3_clear : MethodName := ⟨RX3, "clear", "()V"⟩
abbrev cX3_signAt : ByteArray := prog_5_method_5_code
def yX3_signAt : MethodName := ⟨RX3, "signAt", "(I)I"⟩
abbrev cX3_digitAt : ByteArray := prog_5_method_6_code
def yX3_digitAt : MethodName := ⟨RX3, "digitAt", "(I)I"⟩
abbrev cX3_kindAt : ByteArray := prog_5_method_7_code
def yX3_kindAt : MethodName := ⟨RX3, "kindAt", "(I)I"⟩
abbrev cX3_placeAt : ByteArray := prog_5_method_8_code
def yX3_placeAt : MethodName := ⟨RX3, "placeAt", "(I)I"⟩
abbrev cX3_whatAt : ByteArray := prog_5_method_9_code
def yX3_whatAt : MethodName := ⟨RX3, "whatAt", "(I)I"⟩
abbrev cX3_faultPlace : ByteArray := prog_5_method_10_code
def yX3_faultPlace : MethodName := ⟨RX3, "faultPlace", "()I"⟩
def RX4 : String := "PanTales$Sayings"
def TX4 : u_T := fun k => match k with
  | 0 => ("PanTales$Sayings", "faded", "[I", true)
  | 1 => ("PanTales$Sayings", "twos", "[I", true)
  | 2 => ("PanTales$Sayings", "left", "[I", true)
  | _ => ("PanTales$Sayings", "count", "I", false)
def tyX4 : Nat → FieldType := fun k => match k with
  | 0 => .array .int
  | 1 => .array .int
  | 2 => .array .int
  | _ => .int
abbrev wsX40 : List Cond := u_ws RX4 TX4 4
theorem nmX4 : ∀ a, a < 4 → ∀ b, b < 4 → a ≠ b → (TX4 a).2.1 ≠ (TX4 b).2.1 := by decide +kernel
theorem tyX4_ok : ∀ k, k < 4 → parseFieldDescriptor (TX4 k).2.2.1 = some (tyX4 k) := by decide +kernel
abbrev cX4_init : ByteArray := prog_6_method_1_code
def yX4_init : MethodName := ⟨RX4, "<init>", "()V"⟩
abbrev cX4_gather : ByteArray := prog_6_method_2_code
def yX4_gather : MethodName := ⟨RX4, "gather", "(LPanTales$Close;)V"⟩
abbrev cX4_fadeAll : ByteArray := prog_6_method_3_code
def yX4_fadeAll : MethodName := ⟨RX4, "fadeAll", "(LPanTales$Close;)V"⟩
abbrev cX4_isSo : ByteArray := prog_6_method_4_code
def yX4_isSo : MethodName := ⟨RX4, "isSo", "(LPanTales$Close;II)Z"⟩
abbrev cX4_taleInBed : ByteArray := prog_6_method_5_code
def yX4_taleInBed : MethodName := ⟨RX4, "taleInBed", "(III)I"⟩
abbrev cX4_size : ByteArray := prog_6_method_6_code
def yX4_size : MethodName := ⟨RX4, "size", "()I"⟩
abbrev cX4_pick : ByteArray := prog_6_method_7_code
def yX4_pick : MethodName := ⟨RX4, "pick", "(I)I"⟩
abbrev cX4_bedToAsk : ByteArray := prog_6_method_8_code
def yX4_bedToAsk : MethodName := ⟨RX4, "bedToAsk", "()I"⟩
abbrev cX4_mostLeft : ByteArray := prog_6_method_9_code
def yX4_mostLeft : MethodName := ⟨RX4, "mostLeft", "(I)I"⟩
def RX5 : String := "PanTales$Ways"
def TX5 : u_T := fun k => match k with
  | 0 => ("PanTales$Ways", "least", "[I", true)
  | 1 => ("PanTales$Ways", "neighbours", "[I", true)
  | _ => ("PanTales$Ways", "heats", "[I", false)
def tyX5 : Nat → FieldType := fun k => match k with
  | 0 => .array .int
  | 1 => .array .int
  | _ => .array .int
abbrev wsX50 : List Cond := u_ws RX5 TX5 3
theorem nmX5 : ∀ a, a < 3 → ∀ b, b < 3 → a ≠ b → (TX5 a).2.1 ≠ (TX5 b).2.1 := by decide +kernel
theorem tyX5_ok : ∀ k, k < 3 → parseFieldDescriptor (TX5 k).2.2.1 = some (tyX5 k) := by decide +kernel
abbrev cX5_init : ByteArray := prog_7_method_1_code
def yX5_init : MethodName := ⟨RX5, "<init>", "()V"⟩
abbrev cX5_measure : ByteArray := prog_7_method_2_code
def yX5_measure : MethodName := ⟨RX5, "measure", "(LPanTales$Close;)V"⟩
abbrev cX5_shortenPast : ByteArray := prog_7_method_3_code
def yX5_shortenPast : MethodName := ⟨RX5, "shortenPast", "(II)V"⟩
abbrev cX5_leastWay : ByteArray := prog_7_method_4_code
def yX5_leastWay : MethodName := ⟨RX5, "leastWay", "(II)I"⟩
abbrev cX5_howFar : ByteArray := prog_7_method_5_code
def yX5_howFar : MethodName := ⟨RX5, "howFar", "(II)I"⟩
abbrev cX5_nextPlace : ByteArray := prog_7_method_6_code
def yX5_nextPlace : MethodName := ⟨RX5, "nextPlace", "(LPanTales$Close;II)I"⟩
abbrev cX5_bestRound : ByteArray := prog_7_method_7_code
def yX5_bestRound : MethodName := ⟨RX5, "bestRound", "(LPanTales$Close;I)I"⟩
abbrev cX5_goOn : ByteArray := prog_7_method_8_code
def yX5_goOn : MethodName := ⟨RX5, "goOn", "(LPanTales$Close;I)Z"⟩
abbrev cX5_heatLeft : ByteArray := prog_7_method_9_code
def yX5_heatLeft : MethodName := ⟨RX5, "heatLeft", "(II)I"⟩
abbrev cX5_warm : ByteArray := prog_7_method_10_code
def yX5_warm : MethodName := ⟨RX5, "warm", "(LPanTales$Close;III)V"⟩
abbrev cX5_fewestDamp : ByteArray := prog_7_method_11_code
def yX5_fewestDamp : MethodName := ⟨RX5, "fewestDamp", "(LPanTales$Close;I)I"⟩
abbrev cX5_findNeighbours : ByteArray := prog_7_method_12_code
def yX5_findNeighbours : MethodName := ⟨RX5, "findNeighbours", "(LPanTales$Close;)V"⟩
abbrev cX5_leadsTo : ByteArray := prog_7_method_13_code
def yX5_leadsTo : MethodName := ⟨RX5, "leadsTo", "(II)Z"⟩
def RX6 : String := "PanTales"
def TX6 : u_T := fun k => match k with
  | 0 => ("PanTales", "close", "LPanTales$Close;", true)
  | 1 => ("PanTales", "draft", "LPanTales$Close;", true)
  | 2 => ("PanTales", "images", "[LPanTales$Close;", true)
  | 3 => ("PanTales", "pad", "LPanTales$Pad;", true)
  | 4 => ("PanTales", "night", "LPanTales$Night;", true)
  | 5 => ("PanTales", "ways", "LPanTales$Ways;", true)
  | 6 => ("PanTales", "sayings", "LPanTales$Sayings;", true)
  | _ => ("PanTales", "chances", "LPanTales$Chances;", true)
def tyX6 : Nat → FieldType := fun k => match k with
  | 0 => .object "PanTales$Close"
  | 1 => .object "PanTales$Close"
  | 2 => .array (.object "PanTales$Close")
  | 3 => .object "PanTales$Pad"
  | 4 => .object "PanTales$Night"
  | 5 => .object "PanTales$Ways"
  | 6 => .object "PanTales$Sayings"
  | _ => .object "PanTales$Chances"
abbrev wsX60 : List Cond := u_ws RX6 TX6 8
theorem nmX6 : ∀ a, a < 8 → ∀ b, b < 8 → a ≠ b → (TX6 a).2.1 ≠ (TX6 b).2.1 := by decide +kernel
theorem tyX6_ok : ∀ k, k < 8 → parseFieldDescriptor (TX6 k).2.2.1 = some (tyX6 k) := by decide +kernel
abbrev cX6_init : ByteArray := prog_1_method_1_code
def yX6_init : MethodName := ⟨RX6, "<init>", "()V"⟩
abbrev cX6_road : ByteArray := prog_1_method_2_code
def yX6_road : MethodName := ⟨RX6, "road", "(III)I"⟩
abbrev cX6_house : ByteArray := prog_1_method_3_code
def yX6_house : MethodName := ⟨RX6, "house", "(III)I"⟩
abbrev cX6_tell : ByteArray := prog_1_method_4_code
def yX6_tell : MethodName := ⟨RX6, "tell", "(II)I"⟩
abbrev cX6_fade : ByteArray := prog_1_method_5_code
def yX6_fade : MethodName := ⟨RX6, "fade", "(II)I"⟩
abbrev cX6_say : ByteArray := prog_1_method_6_code
def yX6_say : MethodName := ⟨RX6, "say", "(I)I"⟩
abbrev cX6_wipe : ByteArray := prog_1_method_7_code
def yX6_wipe : MethodName := ⟨RX6, "wipe", "()I"⟩
abbrev cX6_judge : ByteArray := prog_1_method_9_code
def yX6_judge : MethodName := ⟨RX6, "judge", "(I)I"⟩
abbrev cX6_behind : ByteArray := prog_1_method_10_code
def yX6_behind : MethodName := ⟨RX6, "behind", "(II)I"⟩
abbrev cX6_pan : ByteArray := prog_1_method_11_code
def yX6_pan : MethodName := ⟨RX6, "pan", "(I)I"⟩
abbrev cX6_holds : ByteArray := prog_1_method_12_code
def yX6_holds : MethodName := ⟨RX6, "holds", "(I)I"⟩
abbrev cX6_other : ByteArray := prog_1_method_13_code
def yX6_other : MethodName := ⟨RX6, "other", "(I)I"⟩
abbrev cX6_done : ByteArray := prog_1_method_14_code
def yX6_done : MethodName := ⟨RX6, "done", "()I"⟩
abbrev cX6_near : ByteArray := prog_1_method_15_code
def yX6_near : MethodName := ⟨RX6, "near", "(III)I"⟩
abbrev cX6_round : ByteArray := prog_1_method_16_code
def yX6_round : MethodName := ⟨RX6, "round", "(II)I"⟩
abbrev cX6_keep : ByteArray := prog_1_method_17_code
def yX6_keep : MethodName := ⟨RX6, "keep", "(II)I"⟩
abbrev cX6_faded : ByteArray := prog_1_method_18_code
def yX6_faded : MethodName := ⟨RX6, "faded", "(II)I"⟩
abbrev cX6_seen : ByteArray := prog_1_method_19_code
def yX6_seen : MethodName := ⟨RX6, "seen", "(II)I"⟩
abbrev cX6_forget : ByteArray := prog_1_method_20_code
def yX6_forget : MethodName := ⟨RX6, "forget", "()I"⟩
abbrev cX6_fits : ByteArray := prog_1_method_21_code
def yX6_fits : MethodName := ⟨RX6, "fits", "(I)I"⟩
abbrev cX6_ask : ByteArray := prog_1_method_22_code
def yX6_ask : MethodName := ⟨RX6, "ask", "(I)I"⟩
abbrev cX6_embers : ByteArray := prog_1_method_24_code
def yX6_embers : MethodName := ⟨RX6, "embers", "(II)I"⟩
abbrev cX6_told : ByteArray := prog_1_method_28_code
def yX6_told : MethodName := ⟨RX6, "told", "(I)I"⟩
abbrev cX6_within : ByteArray := prog_1_method_29_code
def yX6_within : MethodName := ⟨RX6, "within", "(III)Z"⟩
abbrev cX6_isPlace : ByteArray := prog_1_method_30_code
def yX6_isPlace : MethodName := ⟨RX6, "isPlace", "(I)Z"⟩
abbrev cX6_isHouse : ByteArray := prog_1_method_31_code
def yX6_isHouse : MethodName := ⟨RX6, "isHouse", "(I)Z"⟩
abbrev cX6_isTale : ByteArray := prog_1_method_32_code
def yX6_isTale : MethodName := ⟨RX6, "isTale", "(I)Z"⟩
abbrev cX6_isIn : ByteArray := prog_1_method_33_code
def yX6_isIn : MethodName := ⟨RX6, "isIn", "(II)Z"⟩
def RX7 : String := "PanTalesModel"
def TX7 : u_T := fun k => match k with
  | _ => ("", "", "", false)
def tyX7 : Nat → FieldType := fun k => match k with
  | _ => .int
abbrev wsX70 : List Cond := u_ws RX7 TX7 0
theorem nmX7 : ∀ a, a < 0 → ∀ b, b < 0 → a ≠ b → (TX7 a).2.1 ≠ (TX7 b).2.1 := by decide +kernel
theorem tyX7_ok : ∀ k, k < 0 → parseFieldDescriptor (TX7 k).2.2.1 = some (tyX7 k) := by decide +kernel
def RJ6 : String := "java/lang/Integer"
def TJ6 : u_T := fun k => match k with
  | _ => ("", "", "", false)
def tyJ6 : Nat → FieldType := fun k => match k with
  | _ => .int
abbrev wsJ60 : List Cond := u_ws RJ6 TJ6 0
theorem nmJ6 : ∀ a, a < 0 → ∀ b, b < 0 → a ≠ b → (TJ6 a).2.1 ≠ (TJ6 b).2.1 := by decide +kernel
theorem tyJ6_ok : ∀ k, k < 0 → parseFieldDescriptor (TJ6 k).2.2.1 = some (tyJ6 k) := by decide +kernel
abbrev cJ6_bitCount_0f7a4 : ByteArray := prog_10_method_49_code
def yJ6_bitCount_0f7a4 : MethodName := ⟨RJ6, "bitCount", "(I)I"⟩
def RJ9 : String := "java/lang/Math"
def TJ9 : u_T := fun k => match k with
  | _ => ("", "", "", false)
def tyJ9 : Nat → FieldType := fun k => match k with
  | _ => .int
abbrev wsJ90 : List Cond := u_ws RJ9 TJ9 0
theorem nmJ9 : ∀ a, a < 0 → ∀ b, b < 0 → a ≠ b → (TJ9 a).2.1 ≠ (TJ9 b).2.1 := by decide +kernel
theorem tyJ9_ok : ∀ k, k < 0 → parseFieldDescriptor (TJ9 k).2.2.1 = some (tyJ9 k) := by decide +kernel
abbrev cJ9_max_7cf53 : ByteArray := prog_11_method_65_code
def yJ9_max_7cf53 : MethodName := ⟨RJ9, "max", "(II)I"⟩
abbrev cJ9_min_7cf53 : ByteArray := prog_11_method_69_code
def yJ9_min_7cf53 : MethodName := ⟨RJ9, "min", "(II)I"⟩
def RJ10 : String := "java/lang/System"
def TJ10 : u_T := fun k => match k with
  | _ => ("", "", "", false)
def tyJ10 : Nat → FieldType := fun k => match k with
  | _ => .int
abbrev wsJ100 : List Cond := u_ws RJ10 TJ10 0
theorem nmJ10 : ∀ a, a < 0 → ∀ b, b < 0 → a ≠ b → (TJ10 a).2.1 ≠ (TJ10 b).2.1 := by decide +kernel
theorem tyJ10_ok : ∀ k, k < 0 → parseFieldDescriptor (TJ10 k).2.2.1 = some (tyJ10 k) := by decide +kernel
def RJ7 : String := "java/util/Arrays"
def TJ7 : u_T := fun k => match k with
  | _ => ("", "", "", false)
def tyJ7 : Nat → FieldType := fun k => match k with
  | _ => .int
abbrev wsJ70 : List Cond := u_ws RJ7 TJ7 0
theorem nmJ7 : ∀ a, a < 0 → ∀ b, b < 0 → a ≠ b → (TJ7 a).2.1 ≠ (TJ7 b).2.1 := by decide +kernel
theorem tyJ7_ok : ∀ k, k < 0 → parseFieldDescriptor (TJ7 k).2.2.1 = some (tyJ7 k) := by decide +kernel
abbrev cJ7_fill_53178 : ByteArray := prog_13_method_103_code
def yJ7_fill_53178 : MethodName := ⟨RJ7, "fill", "([II)V"⟩
def RL : String := "PanTalesLaw"
abbrev cL_cell : ByteArray := method_2_code
def yL_cell : MethodName := ⟨RL, "cell", "([III)I"⟩
abbrev cL_has : ByteArray := method_3_code
def yL_has : MethodName := ⟨RL, "has", "(II)Z"⟩
abbrev cL_bits : ByteArray := method_4_code
def yL_bits : MethodName := ⟨RL, "bits", "(I)I"⟩
abbrev cL_law : ByteArray := code
def yL_law : MethodName := ⟨RL, "law", "([I)Z"⟩
def wsX0_init : List Cond := .code yX0_init cX0_init 1 none :: ([.methodLink RX0 3 objectInit, .instanceMethod objectInit, .code objectInit ⟨#[0xb1]⟩ 1 none, .arrayClass .long, .fieldLink RX0 9 "PanTales$Chances" "lastDoes" "[J", .fieldLink RX0 15 "PanTales$Chances" "lastNot" "[J", .arrayClass .int, .fieldLink RX0 18 "PanTales$Chances" "takes" "[I"] ++ wsX00)
def wsX6_within : List Cond := .code yX6_within cX6_within 3 (some .boolean) :: ([])
def wsX0_leastTake : List Cond := .code yX0_leastTake cX0_leastTake 4 (some .int) :: ([.fieldLink RX0 18 "PanTales$Chances" "takes" "[I", .static yX6_within, .initialized RX6, .code yX6_within cX6_within 3 (some .boolean)] ++ wsX00)
def wsX0_firstTake : List Cond := .code yX0_firstTake cX0_firstTake 3 (some .int) :: ([.fieldLink RX0 18 "PanTales$Chances" "takes" "[I", .static yX6_within, .initialized RX6, .code yX6_within cX6_within 3 (some .boolean), .methodLink RX0 38 yX0_leastTake, .instanceMethod yX0_leastTake, .selects RX0 yX0_leastTake yX0_leastTake, .initialized RX0, .code yX0_leastTake cX0_leastTake 4 (some .int)] ++ wsX00)
def wsJ7_fill_53178 : List Cond := .code yJ7_fill_53178 cJ7_fill_53178 4 none :: ([])
def wsX1_init : List Cond := .code yX1_init cX1_init 2 none :: ([.methodLink RX1 3 objectInit, .instanceMethod objectInit, .code objectInit ⟨#[0xb1]⟩ 1 none, .arrayClass .int, .fieldLink RX1 9 "PanTales$Close" "roads" "[I", .fieldLink RX1 15 "PanTales$Close" "doubts" "[I", .fieldLink RX1 18 "PanTales$Close" "damps" "[I", .fieldLink RX1 21 "PanTales$Close" "beliefs" "[I", .fieldLink RX1 24 "PanTales$Close" "fadings" "[I", .fieldLink RX1 27 "PanTales$Close" "sightBeds" "[I", .fieldLink RX1 30 "PanTales$Close" "sightTales" "[I", .fieldLink RX1 33 "PanTales$Close" "place" "I", .methodLink RX1 37 yJ7_fill_53178, .static yJ7_fill_53178, .initialized RJ7, .code yJ7_fill_53178 cJ7_fill_53178 4 none] ++ wsX10)
def wsX1_copyFrom : List Cond := .code yX1_copyFrom cX1_copyFrom 2 none :: ([.fieldLink RX1 9 "PanTales$Close" "roads" "[I", .methodLink RX1 43 arraycopyName, .native arraycopyName, .static arraycopyName, .initialized "java/lang/System", .fieldLink RX1 15 "PanTales$Close" "doubts" "[I", .fieldLink RX1 18 "PanTales$Close" "damps" "[I", .fieldLink RX1 21 "PanTales$Close" "beliefs" "[I", .fieldLink RX1 24 "PanTales$Close" "fadings" "[I", .fieldLink RX1 27 "PanTales$Close" "sightBeds" "[I", .fieldLink RX1 30 "PanTales$Close" "sightTales" "[I", .fieldLink RX1 49 "PanTales$Close" "sights" "I", .fieldLink RX1 33 "PanTales$Close" "place" "I", .fieldLink RX1 52 "PanTales$Close" "heat" "I", .fieldLink RX1 55 "PanTales$Close" "tale" "I", .fieldLink RX1 58 "PanTales$Close" "mornings" "I"] ++ wsX10)
def wsX6_isPlace : List Cond := .code yX6_isPlace cX6_isPlace 1 (some .boolean) :: ([])
def wsX1_longBetween : List Cond := .code yX1_longBetween cX1_longBetween 3 (some .int) :: ([.fieldLink RX1 9 "PanTales$Close" "roads" "[I", .static yX6_isPlace, .initialized RX6, .code yX6_isPlace cX6_isPlace 1 (some .boolean)] ++ wsX10)
def wsX1_layRoad : List Cond := .code yX1_layRoad cX1_layRoad 4 none :: ([.fieldLink RX1 9 "PanTales$Close" "roads" "[I", .static yX6_isPlace, .initialized RX6, .code yX6_isPlace cX6_isPlace 1 (some .boolean)] ++ wsX10)
def wsX6_isHouse : List Cond := .code yX6_isHouse cX6_isHouse 1 (some .boolean) :: ([])
def wsX1_doubtOf : List Cond := .code yX1_doubtOf cX1_doubtOf 2 (some .int) :: ([.fieldLink RX1 15 "PanTales$Close" "doubts" "[I", .static yX6_isHouse, .initialized RX6, .code yX6_isHouse cX6_isHouse 1 (some .boolean)] ++ wsX10)
def wsX1_isDamp : List Cond := .code yX1_isDamp cX1_isDamp 2 (some .boolean) :: ([.fieldLink RX1 18 "PanTales$Close" "damps" "[I", .static yX6_isHouse, .initialized RX6, .code yX6_isHouse cX6_isHouse 1 (some .boolean)] ++ wsX10)
def wsX1_beliefOf : List Cond := .code yX1_beliefOf cX1_beliefOf 2 (some .int) :: ([.fieldLink RX1 21 "PanTales$Close" "beliefs" "[I", .static yX6_isHouse, .initialized RX6, .code yX6_isHouse cX6_isHouse 1 (some .boolean)] ++ wsX10)
def wsX1_furnish : List Cond := .code yX1_furnish cX1_furnish 4 none :: ([.fieldLink RX1 15 "PanTales$Close" "doubts" "[I", .fieldLink RX1 18 "PanTales$Close" "damps" "[I", .static yX6_isHouse, .initialized RX6, .code yX6_isHouse cX6_isHouse 1 (some .boolean)] ++ wsX10)
def wsX1_convince : List Cond := .code yX1_convince cX1_convince 3 none :: ([.fieldLink RX1 21 "PanTales$Close" "beliefs" "[I", .static yX6_isHouse, .initialized RX6, .code yX6_isHouse cX6_isHouse 1 (some .boolean)] ++ wsX10)
def wsX1_houseFact : List Cond := .code yX1_houseFact cX1_houseFact 3 (some .int) :: ([.methodLink RX1 68 yX1_beliefOf, .instanceMethod yX1_beliefOf, .selects RX1 yX1_beliefOf yX1_beliefOf, .initialized RX1, .code yX1_beliefOf cX1_beliefOf 2 (some .int), .fieldLink RX1 21 "PanTales$Close" "beliefs" "[I", .static yX6_isHouse, .initialized RX6, .code yX6_isHouse cX6_isHouse 1 (some .boolean), .methodLink RX1 72 yX1_doubtOf, .instanceMethod yX1_doubtOf, .selects RX1 yX1_doubtOf yX1_doubtOf, .code yX1_doubtOf cX1_doubtOf 2 (some .int), .fieldLink RX1 15 "PanTales$Close" "doubts" "[I", .methodLink RX1 75 yX1_isDamp, .instanceMethod yX1_isDamp, .selects RX1 yX1_isDamp yX1_isDamp, .code yX1_isDamp cX1_isDamp 2 (some .boolean), .fieldLink RX1 18 "PanTales$Close" "damps" "[I"] ++ wsX10)
def wsX1_panFact : List Cond := .code yX1_panFact cX1_panFact 2 (some .int) :: ([.fieldLink RX1 33 "PanTales$Close" "place" "I", .fieldLink RX1 52 "PanTales$Close" "heat" "I", .fieldLink RX1 55 "PanTales$Close" "tale" "I", .fieldLink RX1 58 "PanTales$Close" "mornings" "I"] ++ wsX10)
def wsX1_believersOf : List Cond := .code yX1_believersOf cX1_believersOf 4 (some .int) :: ([.fieldLink RX1 21 "PanTales$Close" "beliefs" "[I"] ++ wsX10)
def wsX6_isTale : List Cond := .code yX6_isTale cX6_isTale 1 (some .boolean) :: ([])
def wsX1_fadesInto : List Cond := .code yX1_fadesInto cX1_fadesInto 2 (some .int) :: ([.fieldLink RX1 24 "PanTales$Close" "fadings" "[I", .static yX6_isTale, .initialized RX6, .code yX6_isTale cX6_isTale 1 (some .boolean)] ++ wsX10)
def wsX1_letFade : List Cond := .code yX1_letFade cX1_letFade 3 none :: ([.fieldLink RX1 24 "PanTales$Close" "fadings" "[I", .static yX6_isTale, .initialized RX6, .code yX6_isTale cX6_isTale 1 (some .boolean)] ++ wsX10)
def wsX1_behindStirs : List Cond := .code yX1_behindStirs cX1_behindStirs 5 (some .int) :: ([.methodLink RX1 89 yX1_fadesInto, .instanceMethod yX1_fadesInto, .selects RX1 yX1_fadesInto yX1_fadesInto, .initialized RX1, .code yX1_fadesInto cX1_fadesInto 2 (some .int), .fieldLink RX1 24 "PanTales$Close" "fadings" "[I", .static yX6_isTale, .initialized RX6, .code yX6_isTale cX6_isTale 1 (some .boolean)] ++ wsX10)
def wsX6_isIn : List Cond := .code yX6_isIn cX6_isIn 2 (some .boolean) :: ([])
def wsX1_stirsToRing : List Cond := .code yX1_stirsToRing cX1_stirsToRing 5 (some .int) :: ([.static yX6_isTale, .initialized RX6, .code yX6_isTale cX6_isTale 1 (some .boolean), .static yX6_isIn, .code yX6_isIn cX6_isIn 2 (some .boolean), .methodLink RX1 89 yX1_fadesInto, .instanceMethod yX1_fadesInto, .selects RX1 yX1_fadesInto yX1_fadesInto, .initialized RX1, .code yX1_fadesInto cX1_fadesInto 2 (some .int), .fieldLink RX1 24 "PanTales$Close" "fadings" "[I"] ++ wsX10)
def wsX1_stirsOfRing : List Cond := .code yX1_stirsOfRing cX1_stirsOfRing 5 (some .int) :: ([.methodLink RX1 96 yX1_stirsToRing, .instanceMethod yX1_stirsToRing, .selects RX1 yX1_stirsToRing yX1_stirsToRing, .initialized RX1, .code yX1_stirsToRing cX1_stirsToRing 5 (some .int), .static yX6_isTale, .initialized RX6, .code yX6_isTale cX6_isTale 1 (some .boolean), .static yX6_isIn, .code yX6_isIn cX6_isIn 2 (some .boolean), .methodLink RX1 89 yX1_fadesInto, .instanceMethod yX1_fadesInto, .selects RX1 yX1_fadesInto yX1_fadesInto, .code yX1_fadesInto cX1_fadesInto 2 (some .int), .fieldLink RX1 24 "PanTales$Close" "fadings" "[I", .methodLink RX1 99 yX1_behindStirs, .instanceMethod yX1_behindStirs, .selects RX1 yX1_behindStirs yX1_behindStirs, .code yX1_behindStirs cX1_behindStirs 5 (some .int)] ++ wsX10)
def wsX1_sightCount : List Cond := .code yX1_sightCount cX1_sightCount 1 (some .int) :: ([.fieldLink RX1 49 "PanTales$Close" "sights" "I"] ++ wsX10)
def wsX1_addSight : List Cond := .code yX1_addSight cX1_addSight 3 (some .boolean) :: ([.fieldLink RX1 49 "PanTales$Close" "sights" "I", .fieldLink RX1 27 "PanTales$Close" "sightBeds" "[I", .fieldLink RX1 30 "PanTales$Close" "sightTales" "[I", .static yX6_within, .initialized RX6, .code yX6_within cX6_within 3 (some .boolean)] ++ wsX10)
def wsX1_dropSights : List Cond := .code yX1_dropSights cX1_dropSights 1 none :: ([.fieldLink RX1 49 "PanTales$Close" "sights" "I"] ++ wsX10)
def wsX1_sightBed : List Cond := .code yX1_sightBed cX1_sightBed 2 (some .int) :: ([.fieldLink RX1 27 "PanTales$Close" "sightBeds" "[I", .static yX6_within, .initialized RX6, .code yX6_within cX6_within 3 (some .boolean)] ++ wsX10)
def wsX1_sightTale : List Cond := .code yX1_sightTale cX1_sightTale 2 (some .int) :: ([.fieldLink RX1 30 "PanTales$Close" "sightTales" "[I", .static yX6_within, .initialized RX6, .code yX6_within cX6_within 3 (some .boolean)] ++ wsX10)
def wsX1_reasonAgainst : List Cond := .code yX1_reasonAgainst cX1_reasonAgainst 3 (some .int) :: ([.fieldLink RX1 33 "PanTales$Close" "place" "I", .fieldLink RX1 52 "PanTales$Close" "heat" "I", .fieldLink RX1 58 "PanTales$Close" "mornings" "I", .methodLink RX1 107 yX1_longBetween, .instanceMethod yX1_longBetween, .selects RX1 yX1_longBetween yX1_longBetween, .initialized RX1, .code yX1_longBetween cX1_longBetween 3 (some .int), .fieldLink RX1 9 "PanTales$Close" "roads" "[I", .static yX6_isPlace, .initialized RX6, .code yX6_isPlace cX6_isPlace 1 (some .boolean)] ++ wsX10)
def wsX1_isConvinced : List Cond := .code yX1_isConvinced cX1_isConvinced 3 (some .boolean) :: ([.fieldLink RX1 15 "PanTales$Close" "doubts" "[I", .static yX6_isHouse, .initialized RX6, .code yX6_isHouse cX6_isHouse 1 (some .boolean)] ++ wsX10)
def wsX1_warmBed_r1 : List Cond := [Cond.fieldLink RX1 52 "PanTales$Close" "heat" "I", Cond.methodLink RX1 110 Lib.Math.max.name, Cond.static Lib.Math.max.name, Cond.initialized "java/lang/Math", Cond.code Lib.Math.max.name Lib.Math.max.code 2 (some .int), Cond.fieldLink RX1 55 "PanTales$Close" "tale" "I", Cond.methodLink RX1 119 Lib.Math.min.name, Cond.static Lib.Math.min.name, Cond.code Lib.Math.min.name Lib.Math.min.code 2 (some .int), Cond.methodLink RX1 75 yX1_isDamp, Cond.instanceMethod yX1_isDamp, Cond.selects RX1 yX1_isDamp yX1_isDamp, Cond.initialized RX1, Cond.code yX1_isDamp cX1_isDamp 2 (some .boolean), Cond.fieldLink RX1 18 "PanTales$Close" "damps" "[I", Cond.static yX6_isHouse, Cond.initialized RX6, Cond.code yX6_isHouse cX6_isHouse 1 (some .boolean), Cond.methodLink RX1 122 yX1_isConvinced, Cond.instanceMethod yX1_isConvinced, Cond.selects RX1 yX1_isConvinced yX1_isConvinced, Cond.code yX1_isConvinced cX1_isConvinced 3 (some .boolean), Cond.fieldLink RX1 15 "PanTales$Close" "doubts" "[I", Cond.methodLink RX1 125 yX1_convince]
def wsX1_warmBed_r2 : List Cond := [Cond.instanceMethod yX1_convince, Cond.selects RX1 yX1_convince yX1_convince, Cond.code yX1_convince cX1_convince 3 none, Cond.fieldLink RX1 21 "PanTales$Close" "beliefs" "[I", Cond.methodLink RX1 72 yX1_doubtOf, Cond.instanceMethod yX1_doubtOf, Cond.selects RX1 yX1_doubtOf yX1_doubtOf, Cond.code yX1_doubtOf cX1_doubtOf 2 (some .int), Cond.methodLink RX1 129 yX1_furnish, Cond.instanceMethod yX1_furnish, Cond.selects RX1 yX1_furnish yX1_furnish, Cond.code yX1_furnish cX1_furnish 4 none]
def wsX1_warmBed : List Cond := .code yX1_warmBed cX1_warmBed 2 none :: ((wsX1_warmBed_r1 ++ wsX1_warmBed_r2) ++ wsX10)
def wsX1_act_r1 : List Cond := [Cond.fieldLink RX1 55 "PanTales$Close" "tale" "I", Cond.fieldLink RX1 52 "PanTales$Close" "heat" "I", Cond.fieldLink RX1 33 "PanTales$Close" "place" "I", Cond.methodLink RX1 110 Lib.Math.max.name, Cond.static Lib.Math.max.name, Cond.initialized "java/lang/Math", Cond.code Lib.Math.max.name Lib.Math.max.code 2 (some .int), Cond.methodLink RX1 119 Lib.Math.min.name, Cond.static Lib.Math.min.name, Cond.code Lib.Math.min.name Lib.Math.min.code 2 (some .int), Cond.fieldLink RX1 58 "PanTales$Close" "mornings" "I", Cond.fieldLink RX1 18 "PanTales$Close" "damps" "[I", Cond.methodLink RX1 107 yX1_longBetween, Cond.instanceMethod yX1_longBetween, Cond.selects RX1 yX1_longBetween yX1_longBetween, Cond.initialized RX1, Cond.code yX1_longBetween cX1_longBetween 3 (some .int), Cond.fieldLink RX1 9 "PanTales$Close" "roads" "[I", Cond.static yX6_isPlace, Cond.initialized RX6, Cond.code yX6_isPlace cX6_isPlace 1 (some .boolean), Cond.methodLink RX1 115 yX1_warmBed, Cond.instanceMethod yX1_warmBed, Cond.selects RX1 yX1_warmBed yX1_warmBed]
def wsX1_act_r2 : List Cond := [Cond.code yX1_warmBed cX1_warmBed 2 none, Cond.methodLink RX1 75 yX1_isDamp, Cond.instanceMethod yX1_isDamp, Cond.selects RX1 yX1_isDamp yX1_isDamp, Cond.code yX1_isDamp cX1_isDamp 2 (some .boolean), Cond.static yX6_isHouse, Cond.code yX6_isHouse cX6_isHouse 1 (some .boolean), Cond.methodLink RX1 122 yX1_isConvinced, Cond.instanceMethod yX1_isConvinced, Cond.selects RX1 yX1_isConvinced yX1_isConvinced, Cond.code yX1_isConvinced cX1_isConvinced 3 (some .boolean), Cond.fieldLink RX1 15 "PanTales$Close" "doubts" "[I", Cond.methodLink RX1 125 yX1_convince, Cond.instanceMethod yX1_convince, Cond.selects RX1 yX1_convince yX1_convince, Cond.code yX1_convince cX1_convince 3 none, Cond.fieldLink RX1 21 "PanTales$Close" "beliefs" "[I", Cond.methodLink RX1 72 yX1_doubtOf, Cond.instanceMethod yX1_doubtOf, Cond.selects RX1 yX1_doubtOf yX1_doubtOf, Cond.code yX1_doubtOf cX1_doubtOf 2 (some .int), Cond.methodLink RX1 129 yX1_furnish, Cond.instanceMethod yX1_furnish, Cond.selects RX1 yX1_furnish yX1_furnish]
def wsX1_act_r3 : List Cond := [Cond.code yX1_furnish cX1_furnish 4 none, Cond.methodLink RX1 89 yX1_fadesInto, Cond.instanceMethod yX1_fadesInto, Cond.selects RX1 yX1_fadesInto yX1_fadesInto, Cond.code yX1_fadesInto cX1_fadesInto 2 (some .int), Cond.fieldLink RX1 24 "PanTales$Close" "fadings" "[I", Cond.static yX6_isTale, Cond.code yX6_isTale cX6_isTale 1 (some .boolean), Cond.methodLink RX1 37 yJ7_fill_53178, Cond.static yJ7_fill_53178, Cond.initialized RJ7, Cond.code yJ7_fill_53178 cJ7_fill_53178 4 none]
def wsX1_act : List Cond := .code yX1_act cX1_act 4 none :: ((wsX1_act_r1 ++ (wsX1_act_r2 ++ wsX1_act_r3)) ++ wsX10)
def wsX2_init : List Cond := .code yX2_init cX2_init 1 none :: ([.methodLink RX2 3 objectInit, .instanceMethod objectInit, .code objectInit ⟨#[0xb1]⟩ 1 none])
def wsX3_signAt : List Cond := .code yX3_signAt cX3_signAt 2 (some .int) :: ([.fieldLink RX3 15 "PanTales$Pad" "count" "I", .fieldLink RX3 9 "PanTales$Pad" "signs" "[I", .static yX6_within, .initialized RX6, .code yX6_within cX6_within 3 (some .boolean)] ++ wsX30)
def wsX3_placeAt : List Cond := .code yX3_placeAt cX3_placeAt 3 (some .int) :: ([.methodLink RX3 23 yX3_signAt, .instanceMethod yX3_signAt, .selects RX3 yX3_signAt yX3_signAt, .initialized RX3, .code yX3_signAt cX3_signAt 2 (some .int), .fieldLink RX3 15 "PanTales$Pad" "count" "I", .fieldLink RX3 9 "PanTales$Pad" "signs" "[I", .static yX6_within, .initialized RX6, .code yX6_within cX6_within 3 (some .boolean)] ++ wsX30)
def wsX3_kindAt : List Cond := .code yX3_kindAt cX3_kindAt 2 (some .int) :: ([.methodLink RX3 23 yX3_signAt, .instanceMethod yX3_signAt, .selects RX3 yX3_signAt yX3_signAt, .initialized RX3, .code yX3_signAt cX3_signAt 2 (some .int), .fieldLink RX3 15 "PanTales$Pad" "count" "I", .fieldLink RX3 9 "PanTales$Pad" "signs" "[I", .static yX6_within, .initialized RX6, .code yX6_within cX6_within 3 (some .boolean), .methodLink RX3 27 yX3_placeAt, .instanceMethod yX3_placeAt, .selects RX3 yX3_placeAt yX3_placeAt, .code yX3_placeAt cX3_placeAt 3 (some .int)] ++ wsX30)
def wsX3_digitAt : List Cond := .code yX3_digitAt cX3_digitAt 2 (some .int) :: ([.methodLink RX3 23 yX3_signAt, .instanceMethod yX3_signAt, .selects RX3 yX3_signAt yX3_signAt, .initialized RX3, .code yX3_signAt cX3_signAt 2 (some .int), .fieldLink RX3 15 "PanTales$Pad" "count" "I", .fieldLink RX3 9 "PanTales$Pad" "signs" "[I", .static yX6_within, .initialized RX6, .code yX6_within cX6_within 3 (some .boolean)] ++ wsX30)
def wsX3_faultPlace : List Cond := .code yX3_faultPlace cX3_faultPlace 3 (some .int) :: ([.fieldLink RX3 15 "PanTales$Pad" "count" "I", .methodLink RX3 30 yX3_kindAt, .instanceMethod yX3_kindAt, .selects RX3 yX3_kindAt yX3_kindAt, .initialized RX3, .code yX3_kindAt cX3_kindAt 2 (some .int), .methodLink RX3 23 yX3_signAt, .instanceMethod yX3_signAt, .selects RX3 yX3_signAt yX3_signAt, .code yX3_signAt cX3_signAt 2 (some .int), .fieldLink RX3 9 "PanTales$Pad" "signs" "[I", .static yX6_within, .initialized RX6, .code yX6_within cX6_within 3 (some .boolean), .methodLink RX3 27 yX3_placeAt, .instanceMethod yX3_placeAt, .selects RX3 yX3_placeAt yX3_placeAt, .code yX3_placeAt cX3_placeAt 3 (some .int), .methodLink RX3 33 yX3_digitAt, .instanceMethod yX3_digitAt, .selects RX3 yX3_digitAt yX3_digitAt, .code yX3_digitAt cX3_digitAt 2 (some .int)] ++ wsX30)
def wsX3_size : List Cond := .code yX3_size cX3_size 1 (some .int) :: ([.fieldLink RX3 15 "PanTales$Pad" "count" "I"] ++ wsX30)
def wsX3_whatAt : List Cond := .code yX3_whatAt cX3_whatAt 2 (some .int) :: ([.methodLink RX3 30 yX3_kindAt, .instanceMethod yX3_kindAt, .selects RX3 yX3_kindAt yX3_kindAt, .initialized RX3, .code yX3_kindAt cX3_kindAt 2 (some .int), .methodLink RX3 23 yX3_signAt, .instanceMethod yX3_signAt, .selects RX3 yX3_signAt yX3_signAt, .code yX3_signAt cX3_signAt 2 (some .int), .fieldLink RX3 15 "PanTales$Pad" "count" "I", .fieldLink RX3 9 "PanTales$Pad" "signs" "[I", .static yX6_within, .initialized RX6, .code yX6_within cX6_within 3 (some .boolean), .methodLink RX3 27 yX3_placeAt, .instanceMethod yX3_placeAt, .selects RX3 yX3_placeAt yX3_placeAt, .code yX3_placeAt cX3_placeAt 3 (some .int), .methodLink RX3 33 yX3_digitAt, .instanceMethod yX3_digitAt, .selects RX3 yX3_digitAt yX3_digitAt, .code yX3_digitAt cX3_digitAt 2 (some .int)] ++ wsX30)
def wsX2_actOn_r1 : List Cond := [Cond.fieldLink RX2 24 "PanTales$Night" "otherAct" "I", Cond.fieldLink RX2 9 "PanTales$Night" "acts" "I", Cond.fieldLink RX2 27 "PanTales$Night" "otherHouse" "I", Cond.fieldLink RX2 15 "PanTales$Night" "beds" "I", Cond.methodLink RX2 63 yX1_panFact, Cond.instanceMethod yX1_panFact, Cond.selects RX1 yX1_panFact yX1_panFact, Cond.initialized RX1, Cond.code yX1_panFact cX1_panFact 2 (some .int), Cond.fieldLink RX1 33 "PanTales$Close" "place" "I", Cond.fieldLink RX1 52 "PanTales$Close" "heat" "I", Cond.fieldLink RX1 55 "PanTales$Close" "tale" "I", Cond.fieldLink RX1 58 "PanTales$Close" "mornings" "I", Cond.methodLink RX2 66 yX1_beliefOf, Cond.instanceMethod yX1_beliefOf, Cond.selects RX1 yX1_beliefOf yX1_beliefOf, Cond.code yX1_beliefOf cX1_beliefOf 2 (some .int), Cond.fieldLink RX1 21 "PanTales$Close" "beliefs" "[I", Cond.static yX6_isHouse, Cond.initialized RX6, Cond.code yX6_isHouse cX6_isHouse 1 (some .boolean), Cond.methodLink RX2 69 yX1_act, Cond.instanceMethod yX1_act, Cond.selects RX1 yX1_act yX1_act]
def wsX2_actOn_r2 : List Cond := [Cond.code yX1_act cX1_act 4 none, Cond.methodLink RX1 110 Lib.Math.max.name, Cond.static Lib.Math.max.name, Cond.initialized "java/lang/Math", Cond.code Lib.Math.max.name Lib.Math.max.code 2 (some .int), Cond.methodLink RX1 119 Lib.Math.min.name, Cond.static Lib.Math.min.name, Cond.code Lib.Math.min.name Lib.Math.min.code 2 (some .int), Cond.fieldLink RX1 18 "PanTales$Close" "damps" "[I", Cond.methodLink RX1 107 yX1_longBetween, Cond.instanceMethod yX1_longBetween, Cond.selects RX1 yX1_longBetween yX1_longBetween, Cond.code yX1_longBetween cX1_longBetween 3 (some .int), Cond.fieldLink RX1 9 "PanTales$Close" "roads" "[I", Cond.static yX6_isPlace, Cond.code yX6_isPlace cX6_isPlace 1 (some .boolean), Cond.methodLink RX1 115 yX1_warmBed, Cond.instanceMethod yX1_warmBed, Cond.selects RX1 yX1_warmBed yX1_warmBed, Cond.code yX1_warmBed cX1_warmBed 2 none, Cond.methodLink RX1 75 yX1_isDamp, Cond.instanceMethod yX1_isDamp, Cond.selects RX1 yX1_isDamp yX1_isDamp, Cond.code yX1_isDamp cX1_isDamp 2 (some .boolean)]
def wsX2_actOn_r3 : List Cond := [Cond.methodLink RX1 122 yX1_isConvinced, Cond.instanceMethod yX1_isConvinced, Cond.selects RX1 yX1_isConvinced yX1_isConvinced, Cond.code yX1_isConvinced cX1_isConvinced 3 (some .boolean), Cond.fieldLink RX1 15 "PanTales$Close" "doubts" "[I", Cond.methodLink RX1 125 yX1_convince, Cond.instanceMethod yX1_convince, Cond.selects RX1 yX1_convince yX1_convince, Cond.code yX1_convince cX1_convince 3 none, Cond.methodLink RX1 72 yX1_doubtOf, Cond.instanceMethod yX1_doubtOf, Cond.selects RX1 yX1_doubtOf yX1_doubtOf, Cond.code yX1_doubtOf cX1_doubtOf 2 (some .int), Cond.methodLink RX1 129 yX1_furnish, Cond.instanceMethod yX1_furnish, Cond.selects RX1 yX1_furnish yX1_furnish, Cond.code yX1_furnish cX1_furnish 4 none, Cond.methodLink RX1 89 yX1_fadesInto, Cond.instanceMethod yX1_fadesInto, Cond.selects RX1 yX1_fadesInto yX1_fadesInto, Cond.code yX1_fadesInto cX1_fadesInto 2 (some .int), Cond.fieldLink RX1 24 "PanTales$Close" "fadings" "[I", Cond.static yX6_isTale, Cond.code yX6_isTale cX6_isTale 1 (some .boolean)]
def wsX2_actOn_r4 : List Cond := [Cond.methodLink RX1 37 yJ7_fill_53178, Cond.static yJ7_fill_53178, Cond.initialized RJ7, Cond.code yJ7_fill_53178 cJ7_fill_53178 4 none]
def wsX2_actOn : List Cond := .code yX2_actOn cX2_actOn 7 none :: ((wsX2_actOn_r1 ++ (wsX2_actOn_r2 ++ (wsX2_actOn_r3 ++ wsX2_actOn_r4))) ++ wsX20 ++ wsX10)
def wsX2_pass_r1 : List Cond := [Cond.fieldLink RX2 9 "PanTales$Night" "acts" "I", Cond.fieldLink RX2 15 "PanTales$Night" "beds" "I", Cond.fieldLink RX2 18 "PanTales$Night" "hinderedAct" "I", Cond.fieldLink RX2 21 "PanTales$Night" "reason" "I", Cond.fieldLink RX2 24 "PanTales$Night" "otherAct" "I", Cond.fieldLink RX2 27 "PanTales$Night" "otherHouse" "I", Cond.methodLink RX2 30 yX3_faultPlace, Cond.instanceMethod yX3_faultPlace, Cond.selects RX3 yX3_faultPlace yX3_faultPlace, Cond.initialized RX3, Cond.code yX3_faultPlace cX3_faultPlace 3 (some .int), Cond.fieldLink RX3 15 "PanTales$Pad" "count" "I", Cond.methodLink RX3 30 yX3_kindAt, Cond.instanceMethod yX3_kindAt, Cond.selects RX3 yX3_kindAt yX3_kindAt, Cond.code yX3_kindAt cX3_kindAt 2 (some .int), Cond.methodLink RX3 23 yX3_signAt, Cond.instanceMethod yX3_signAt, Cond.selects RX3 yX3_signAt yX3_signAt, Cond.code yX3_signAt cX3_signAt 2 (some .int), Cond.fieldLink RX3 9 "PanTales$Pad" "signs" "[I", Cond.static yX6_within, Cond.initialized RX6, Cond.code yX6_within cX6_within 3 (some .boolean)]
def wsX2_pass_r2 : List Cond := [Cond.methodLink RX3 27 yX3_placeAt, Cond.instanceMethod yX3_placeAt, Cond.selects RX3 yX3_placeAt yX3_placeAt, Cond.code yX3_placeAt cX3_placeAt 3 (some .int), Cond.methodLink RX3 33 yX3_digitAt, Cond.instanceMethod yX3_digitAt, Cond.selects RX3 yX3_digitAt yX3_digitAt, Cond.code yX3_digitAt cX3_digitAt 2 (some .int), Cond.methodLink RX2 36 yX1_copyFrom, Cond.instanceMethod yX1_copyFrom, Cond.selects RX1 yX1_copyFrom yX1_copyFrom, Cond.initialized RX1, Cond.code yX1_copyFrom cX1_copyFrom 2 none, Cond.fieldLink RX1 9 "PanTales$Close" "roads" "[I", Cond.methodLink RX1 43 arraycopyName, Cond.native arraycopyName, Cond.static arraycopyName, Cond.initialized "java/lang/System", Cond.fieldLink RX1 15 "PanTales$Close" "doubts" "[I", Cond.fieldLink RX1 18 "PanTales$Close" "damps" "[I", Cond.fieldLink RX1 21 "PanTales$Close" "beliefs" "[I", Cond.fieldLink RX1 24 "PanTales$Close" "fadings" "[I", Cond.fieldLink RX1 27 "PanTales$Close" "sightBeds" "[I", Cond.fieldLink RX1 30 "PanTales$Close" "sightTales" "[I"]
def wsX2_pass_r3 : List Cond := [Cond.fieldLink RX1 49 "PanTales$Close" "sights" "I", Cond.fieldLink RX1 33 "PanTales$Close" "place" "I", Cond.fieldLink RX1 52 "PanTales$Close" "heat" "I", Cond.fieldLink RX1 55 "PanTales$Close" "tale" "I", Cond.fieldLink RX1 58 "PanTales$Close" "mornings" "I", Cond.methodLink RX2 42 yX3_size, Cond.instanceMethod yX3_size, Cond.selects RX3 yX3_size yX3_size, Cond.code yX3_size cX3_size 1 (some .int), Cond.methodLink RX2 45 yX3_kindAt, Cond.methodLink RX2 49 yX3_whatAt, Cond.instanceMethod yX3_whatAt, Cond.selects RX3 yX3_whatAt yX3_whatAt, Cond.code yX3_whatAt cX3_whatAt 2 (some .int), Cond.methodLink RX2 52 yX1_reasonAgainst, Cond.instanceMethod yX1_reasonAgainst, Cond.selects RX1 yX1_reasonAgainst yX1_reasonAgainst, Cond.code yX1_reasonAgainst cX1_reasonAgainst 3 (some .int), Cond.methodLink RX1 107 yX1_longBetween, Cond.instanceMethod yX1_longBetween, Cond.selects RX1 yX1_longBetween yX1_longBetween, Cond.code yX1_longBetween cX1_longBetween 3 (some .int), Cond.static yX6_isPlace, Cond.code yX6_isPlace cX6_isPlace 1 (some .boolean)]
def wsX2_pass_r4 : List Cond := [Cond.methodLink RX2 56 yX3_digitAt, Cond.methodLink RX2 59 yX2_actOn, Cond.instanceMethod yX2_actOn, Cond.selects RX2 yX2_actOn yX2_actOn, Cond.initialized RX2, Cond.code yX2_actOn cX2_actOn 7 none, Cond.methodLink RX2 63 yX1_panFact, Cond.instanceMethod yX1_panFact, Cond.selects RX1 yX1_panFact yX1_panFact, Cond.code yX1_panFact cX1_panFact 2 (some .int), Cond.methodLink RX2 66 yX1_beliefOf, Cond.instanceMethod yX1_beliefOf, Cond.selects RX1 yX1_beliefOf yX1_beliefOf, Cond.code yX1_beliefOf cX1_beliefOf 2 (some .int), Cond.static yX6_isHouse, Cond.code yX6_isHouse cX6_isHouse 1 (some .boolean), Cond.methodLink RX2 69 yX1_act, Cond.instanceMethod yX1_act, Cond.selects RX1 yX1_act yX1_act, Cond.code yX1_act cX1_act 4 none, Cond.methodLink RX1 110 Lib.Math.max.name, Cond.static Lib.Math.max.name, Cond.initialized "java/lang/Math", Cond.code Lib.Math.max.name Lib.Math.max.code 2 (some .int)]
def wsX2_pass_r5 : List Cond := [Cond.methodLink RX1 119 Lib.Math.min.name, Cond.static Lib.Math.min.name, Cond.code Lib.Math.min.name Lib.Math.min.code 2 (some .int), Cond.methodLink RX1 115 yX1_warmBed, Cond.instanceMethod yX1_warmBed, Cond.selects RX1 yX1_warmBed yX1_warmBed, Cond.code yX1_warmBed cX1_warmBed 2 none, Cond.methodLink RX1 75 yX1_isDamp, Cond.instanceMethod yX1_isDamp, Cond.selects RX1 yX1_isDamp yX1_isDamp, Cond.code yX1_isDamp cX1_isDamp 2 (some .boolean), Cond.methodLink RX1 122 yX1_isConvinced, Cond.instanceMethod yX1_isConvinced, Cond.selects RX1 yX1_isConvinced yX1_isConvinced, Cond.code yX1_isConvinced cX1_isConvinced 3 (some .boolean), Cond.methodLink RX1 125 yX1_convince, Cond.instanceMethod yX1_convince, Cond.selects RX1 yX1_convince yX1_convince, Cond.code yX1_convince cX1_convince 3 none, Cond.methodLink RX1 72 yX1_doubtOf, Cond.instanceMethod yX1_doubtOf, Cond.selects RX1 yX1_doubtOf yX1_doubtOf, Cond.code yX1_doubtOf cX1_doubtOf 2 (some .int), Cond.methodLink RX1 129 yX1_furnish]
def wsX2_pass_r6 : List Cond := [Cond.instanceMethod yX1_furnish, Cond.selects RX1 yX1_furnish yX1_furnish, Cond.code yX1_furnish cX1_furnish 4 none, Cond.methodLink RX1 89 yX1_fadesInto, Cond.instanceMethod yX1_fadesInto, Cond.selects RX1 yX1_fadesInto yX1_fadesInto, Cond.code yX1_fadesInto cX1_fadesInto 2 (some .int), Cond.static yX6_isTale, Cond.code yX6_isTale cX6_isTale 1 (some .boolean), Cond.methodLink RX1 37 yJ7_fill_53178, Cond.static yJ7_fill_53178, Cond.initialized RJ7, Cond.code yJ7_fill_53178 cJ7_fill_53178 4 none]
def wsX2_pass : List Cond := .code yX2_pass cX2_pass 7 (some .int) :: ((wsX2_pass_r1 ++ (wsX2_pass_r2 ++ (wsX2_pass_r3 ++ (wsX2_pass_r4 ++ (wsX2_pass_r5 ++ wsX2_pass_r6))))) ++ wsX20 ++ wsX30 ++ wsX10)
def wsX3_init : List Cond := .code yX3_init cX3_init 1 none :: ([.methodLink RX3 3 objectInit, .instanceMethod objectInit, .code objectInit ⟨#[0xb1]⟩ 1 none, .arrayClass .int, .fieldLink RX3 9 "PanTales$Pad" "signs" "[I"] ++ wsX30)
def wsX3_add : List Cond := .code yX3_add cX3_add 2 (some .boolean) :: ([.fieldLink RX3 15 "PanTales$Pad" "count" "I", .fieldLink RX3 9 "PanTales$Pad" "signs" "[I", .static yX6_within, .initialized RX6, .code yX6_within cX6_within 3 (some .boolean)] ++ wsX30)
def wsX3_clear : List Cond := .code yX3_clear cX3_clear 1 none :: ([.fieldLink RX3 15 "PanTales$Pad" "count" "I"] ++ wsX30)
def wsX4_init : List Cond := .code yX4_init cX4_init 1 none :: ([.methodLink RX4 3 objectInit, .instanceMethod objectInit, .code objectInit ⟨#[0xb1]⟩ 1 none, .arrayClass .int, .fieldLink RX4 9 "PanTales$Sayings" "faded" "[I", .fieldLink RX4 15 "PanTales$Sayings" "twos" "[I", .fieldLink RX4 18 "PanTales$Sayings" "left" "[I"] ++ wsX40)
def wsX4_fadeAll : List Cond := .code yX4_fadeAll cX4_fadeAll 5 none :: ([.fieldLink RX4 9 "PanTales$Sayings" "faded" "[I", .methodLink RX4 37 yX1_fadesInto, .instanceMethod yX1_fadesInto, .selects RX1 yX1_fadesInto yX1_fadesInto, .initialized RX1, .code yX1_fadesInto cX1_fadesInto 2 (some .int), .fieldLink RX1 24 "PanTales$Close" "fadings" "[I", .static yX6_isTale, .initialized RX6, .code yX6_isTale cX6_isTale 1 (some .boolean)] ++ wsX40 ++ wsX10)
def wsX4_taleInBed : List Cond := .code yX4_taleInBed cX4_taleInBed 5 (some .int) :: ([.fieldLink RX4 9 "PanTales$Sayings" "faded" "[I", .static yX6_isTale, .initialized RX6, .code yX6_isTale cX6_isTale 1 (some .boolean), .static yX6_within, .code yX6_within cX6_within 3 (some .boolean)] ++ wsX40)
def wsX4_isSo_r1 : List Cond := [Cond.methodLink RX4 43 yX1_sightCount, Cond.instanceMethod yX1_sightCount, Cond.selects RX1 yX1_sightCount yX1_sightCount, Cond.initialized RX1, Cond.code yX1_sightCount cX1_sightCount 1 (some .int), Cond.fieldLink RX1 49 "PanTales$Close" "sights" "I", Cond.methodLink RX4 47 yX1_sightBed, Cond.instanceMethod yX1_sightBed, Cond.selects RX1 yX1_sightBed yX1_sightBed, Cond.code yX1_sightBed cX1_sightBed 2 (some .int), Cond.fieldLink RX1 27 "PanTales$Close" "sightBeds" "[I", Cond.static yX6_within, Cond.initialized RX6, Cond.code yX6_within cX6_within 3 (some .boolean), Cond.methodLink RX4 50 yX4_taleInBed, Cond.instanceMethod yX4_taleInBed, Cond.selects RX4 yX4_taleInBed yX4_taleInBed, Cond.initialized RX4, Cond.code yX4_taleInBed cX4_taleInBed 5 (some .int), Cond.fieldLink RX4 9 "PanTales$Sayings" "faded" "[I", Cond.static yX6_isTale, Cond.code yX6_isTale cX6_isTale 1 (some .boolean), Cond.methodLink RX4 54 yX1_sightTale, Cond.instanceMethod yX1_sightTale]
def wsX4_isSo_r2 : List Cond := [Cond.selects RX1 yX1_sightTale yX1_sightTale, Cond.code yX1_sightTale cX1_sightTale 2 (some .int), Cond.fieldLink RX1 30 "PanTales$Close" "sightTales" "[I"]
def wsX4_isSo : List Cond := .code yX4_isSo cX4_isSo 5 (some .boolean) :: ((wsX4_isSo_r1 ++ wsX4_isSo_r2) ++ wsX10 ++ wsX40)
def wsX4_gather_r1 : List Cond := [Cond.fieldLink RX4 25 "PanTales$Sayings" "count" "I", Cond.fieldLink RX4 15 "PanTales$Sayings" "twos" "[I", Cond.methodLink RX4 21 yX4_fadeAll, Cond.instanceMethod yX4_fadeAll, Cond.selects RX4 yX4_fadeAll yX4_fadeAll, Cond.initialized RX4, Cond.code yX4_fadeAll cX4_fadeAll 5 none, Cond.fieldLink RX4 9 "PanTales$Sayings" "faded" "[I", Cond.methodLink RX4 37 yX1_fadesInto, Cond.instanceMethod yX1_fadesInto, Cond.selects RX1 yX1_fadesInto yX1_fadesInto, Cond.initialized RX1, Cond.code yX1_fadesInto cX1_fadesInto 2 (some .int), Cond.fieldLink RX1 24 "PanTales$Close" "fadings" "[I", Cond.static yX6_isTale, Cond.initialized RX6, Cond.code yX6_isTale cX6_isTale 1 (some .boolean), Cond.methodLink RX4 29 yX4_isSo, Cond.instanceMethod yX4_isSo, Cond.selects RX4 yX4_isSo yX4_isSo, Cond.code yX4_isSo cX4_isSo 5 (some .boolean), Cond.methodLink RX4 43 yX1_sightCount, Cond.instanceMethod yX1_sightCount, Cond.selects RX1 yX1_sightCount yX1_sightCount]
def wsX4_gather_r2 : List Cond := [Cond.code yX1_sightCount cX1_sightCount 1 (some .int), Cond.fieldLink RX1 49 "PanTales$Close" "sights" "I", Cond.methodLink RX4 47 yX1_sightBed, Cond.instanceMethod yX1_sightBed, Cond.selects RX1 yX1_sightBed yX1_sightBed, Cond.code yX1_sightBed cX1_sightBed 2 (some .int), Cond.fieldLink RX1 27 "PanTales$Close" "sightBeds" "[I", Cond.static yX6_within, Cond.code yX6_within cX6_within 3 (some .boolean), Cond.methodLink RX4 50 yX4_taleInBed, Cond.instanceMethod yX4_taleInBed, Cond.selects RX4 yX4_taleInBed yX4_taleInBed, Cond.code yX4_taleInBed cX4_taleInBed 5 (some .int), Cond.methodLink RX4 54 yX1_sightTale, Cond.instanceMethod yX1_sightTale, Cond.selects RX1 yX1_sightTale yX1_sightTale, Cond.code yX1_sightTale cX1_sightTale 2 (some .int), Cond.fieldLink RX1 30 "PanTales$Close" "sightTales" "[I"]
def wsX4_gather : List Cond := .code yX4_gather cX4_gather 4 none :: ((wsX4_gather_r1 ++ wsX4_gather_r2) ++ wsX40 ++ wsX10)
def wsX4_size : List Cond := .code yX4_size cX4_size 1 (some .int) :: ([.fieldLink RX4 25 "PanTales$Sayings" "count" "I"] ++ wsX40)
def wsX4_pick : List Cond := .code yX4_pick cX4_pick 2 (some .int) :: ([.fieldLink RX4 25 "PanTales$Sayings" "count" "I", .fieldLink RX4 15 "PanTales$Sayings" "twos" "[I", .static yX6_within, .initialized RX6, .code yX6_within cX6_within 3 (some .boolean)] ++ wsX40)
def wsX4_mostLeft_r1 : List Cond := [Cond.fieldLink RX4 18 "PanTales$Sayings" "left" "[I", Cond.fieldLink RX4 25 "PanTales$Sayings" "count" "I", Cond.methodLink RX4 73 Lib.Math.max.name, Cond.static Lib.Math.max.name, Cond.initialized "java/lang/Math", Cond.code Lib.Math.max.name Lib.Math.max.code 2 (some .int), Cond.methodLink RX4 64 yJ7_fill_53178, Cond.static yJ7_fill_53178, Cond.initialized RJ7, Cond.code yJ7_fill_53178 cJ7_fill_53178 4 none, Cond.methodLink RX4 70 yX4_pick, Cond.instanceMethod yX4_pick, Cond.selects RX4 yX4_pick yX4_pick, Cond.initialized RX4, Cond.code yX4_pick cX4_pick 2 (some .int), Cond.fieldLink RX4 15 "PanTales$Sayings" "twos" "[I", Cond.static yX6_within, Cond.initialized RX6, Cond.code yX6_within cX6_within 3 (some .boolean), Cond.methodLink RX4 50 yX4_taleInBed, Cond.instanceMethod yX4_taleInBed, Cond.selects RX4 yX4_taleInBed yX4_taleInBed, Cond.code yX4_taleInBed cX4_taleInBed 5 (some .int), Cond.fieldLink RX4 9 "PanTales$Sayings" "faded" "[I"]
def wsX4_mostLeft_r2 : List Cond := [Cond.static yX6_isTale, Cond.code yX6_isTale cX6_isTale 1 (some .boolean)]
def wsX4_mostLeft : List Cond := .code yX4_mostLeft cX4_mostLeft 6 (some .int) :: ((wsX4_mostLeft_r1 ++ wsX4_mostLeft_r2) ++ wsX40)
def wsX4_bedToAsk_r1 : List Cond := [Cond.fieldLink RX4 25 "PanTales$Sayings" "count" "I", Cond.methodLink RX4 61 yX4_mostLeft, Cond.instanceMethod yX4_mostLeft, Cond.selects RX4 yX4_mostLeft yX4_mostLeft, Cond.initialized RX4, Cond.code yX4_mostLeft cX4_mostLeft 6 (some .int), Cond.fieldLink RX4 18 "PanTales$Sayings" "left" "[I", Cond.methodLink RX4 73 Lib.Math.max.name, Cond.static Lib.Math.max.name, Cond.initialized "java/lang/Math", Cond.code Lib.Math.max.name Lib.Math.max.code 2 (some .int), Cond.methodLink RX4 64 yJ7_fill_53178, Cond.static yJ7_fill_53178, Cond.initialized RJ7, Cond.code yJ7_fill_53178 cJ7_fill_53178 4 none, Cond.methodLink RX4 70 yX4_pick, Cond.instanceMethod yX4_pick, Cond.selects RX4 yX4_pick yX4_pick, Cond.code yX4_pick cX4_pick 2 (some .int), Cond.fieldLink RX4 15 "PanTales$Sayings" "twos" "[I", Cond.static yX6_within, Cond.initialized RX6, Cond.code yX6_within cX6_within 3 (some .boolean), Cond.methodLink RX4 50 yX4_taleInBed]
def wsX4_bedToAsk_r2 : List Cond := [Cond.instanceMethod yX4_taleInBed, Cond.selects RX4 yX4_taleInBed yX4_taleInBed, Cond.code yX4_taleInBed cX4_taleInBed 5 (some .int), Cond.fieldLink RX4 9 "PanTales$Sayings" "faded" "[I", Cond.static yX6_isTale, Cond.code yX6_isTale cX6_isTale 1 (some .boolean)]
def wsX4_bedToAsk : List Cond := .code yX4_bedToAsk cX4_bedToAsk 5 (some .int) :: ((wsX4_bedToAsk_r1 ++ wsX4_bedToAsk_r2) ++ wsX40)
def wsX5_init : List Cond := .code yX5_init cX5_init 1 none :: ([.methodLink RX5 3 objectInit, .instanceMethod objectInit, .code objectInit ⟨#[0xb1]⟩ 1 none, .arrayClass .int, .fieldLink RX5 9 "PanTales$Ways" "least" "[I", .fieldLink RX5 15 "PanTales$Ways" "neighbours" "[I"] ++ wsX50)
def wsX5_leastWay : List Cond := .code yX5_leastWay cX5_leastWay 3 (some .int) :: ([.fieldLink RX5 9 "PanTales$Ways" "least" "[I", .static yX6_isPlace, .initialized RX6, .code yX6_isPlace cX6_isPlace 1 (some .boolean)] ++ wsX50)
def wsX5_shortenPast : List Cond := .code yX5_shortenPast cX5_shortenPast 5 none :: ([.fieldLink RX5 9 "PanTales$Ways" "least" "[I", .methodLink RX5 28 yX5_leastWay, .instanceMethod yX5_leastWay, .selects RX5 yX5_leastWay yX5_leastWay, .initialized RX5, .code yX5_leastWay cX5_leastWay 3 (some .int), .static yX6_isPlace, .initialized RX6, .code yX6_isPlace cX6_isPlace 1 (some .boolean)] ++ wsX50)
def wsX5_measure : List Cond := .code yX5_measure cX5_measure 5 none :: ([.fieldLink RX5 9 "PanTales$Ways" "least" "[I", .methodLink RX5 18 yX1_longBetween, .instanceMethod yX1_longBetween, .selects RX1 yX1_longBetween yX1_longBetween, .initialized RX1, .code yX1_longBetween cX1_longBetween 3 (some .int), .fieldLink RX1 9 "PanTales$Close" "roads" "[I", .static yX6_isPlace, .initialized RX6, .code yX6_isPlace cX6_isPlace 1 (some .boolean), .methodLink RX5 24 yX5_shortenPast, .instanceMethod yX5_shortenPast, .selects RX5 yX5_shortenPast yX5_shortenPast, .initialized RX5, .code yX5_shortenPast cX5_shortenPast 5 none, .methodLink RX5 28 yX5_leastWay, .instanceMethod yX5_leastWay, .selects RX5 yX5_leastWay yX5_leastWay, .code yX5_leastWay cX5_leastWay 3 (some .int)] ++ wsX50 ++ wsX10)
def wsX5_howFar : List Cond := .code yX5_howFar cX5_howFar 4 (some .int) :: ([.methodLink RX5 28 yX5_leastWay, .instanceMethod yX5_leastWay, .selects RX5 yX5_leastWay yX5_leastWay, .initialized RX5, .code yX5_leastWay cX5_leastWay 3 (some .int), .fieldLink RX5 9 "PanTales$Ways" "least" "[I", .static yX6_isPlace, .initialized RX6, .code yX6_isPlace cX6_isPlace 1 (some .boolean)] ++ wsX50)
def wsX5_nextPlace : List Cond := .code yX5_nextPlace cX5_nextPlace 7 (some .int) :: ([.methodLink RX5 35 yX5_howFar, .instanceMethod yX5_howFar, .selects RX5 yX5_howFar yX5_howFar, .initialized RX5, .code yX5_howFar cX5_howFar 4 (some .int), .methodLink RX5 28 yX5_leastWay, .instanceMethod yX5_leastWay, .selects RX5 yX5_leastWay yX5_leastWay, .code yX5_leastWay cX5_leastWay 3 (some .int), .fieldLink RX5 9 "PanTales$Ways" "least" "[I", .static yX6_isPlace, .initialized RX6, .code yX6_isPlace cX6_isPlace 1 (some .boolean), .methodLink RX5 18 yX1_longBetween, .instanceMethod yX1_longBetween, .selects RX1 yX1_longBetween yX1_longBetween, .initialized RX1, .code yX1_longBetween cX1_longBetween 3 (some .int), .fieldLink RX1 9 "PanTales$Close" "roads" "[I"] ++ wsX50 ++ wsX10)
def wsX5_heatLeft : List Cond := .code yX5_heatLeft cX5_heatLeft 4 (some .int) :: ([.fieldLink RX5 42 "PanTales$Ways" "heats" "[I", .static yX6_within, .initialized RX6, .code yX6_within cX6_within 3 (some .boolean), .static yX6_isHouse, .code yX6_isHouse cX6_isHouse 1 (some .boolean)] ++ wsX50)
def wsX5_warm_r1 : List Cond := [Cond.methodLink RX5 85 Lib.Math.max.name, Cond.static Lib.Math.max.name, Cond.initialized "java/lang/Math", Cond.code Lib.Math.max.name Lib.Math.max.code 2 (some .int), Cond.fieldLink RX5 42 "PanTales$Ways" "heats" "[I", Cond.methodLink RX5 79 yX1_isDamp, Cond.instanceMethod yX1_isDamp, Cond.selects RX1 yX1_isDamp yX1_isDamp, Cond.initialized RX1, Cond.code yX1_isDamp cX1_isDamp 2 (some .boolean), Cond.fieldLink RX1 18 "PanTales$Close" "damps" "[I", Cond.static yX6_isHouse, Cond.initialized RX6, Cond.code yX6_isHouse cX6_isHouse 1 (some .boolean), Cond.methodLink RX5 82 yX1_isConvinced, Cond.instanceMethod yX1_isConvinced, Cond.selects RX1 yX1_isConvinced yX1_isConvinced, Cond.code yX1_isConvinced cX1_isConvinced 3 (some .boolean), Cond.fieldLink RX1 15 "PanTales$Close" "doubts" "[I", Cond.methodLink RX5 65 yX5_heatLeft, Cond.instanceMethod yX5_heatLeft, Cond.selects RX5 yX5_heatLeft yX5_heatLeft, Cond.initialized RX5, Cond.code yX5_heatLeft cX5_heatLeft 4 (some .int)]
def wsX5_warm_r2 : List Cond := [Cond.static yX6_within, Cond.code yX6_within cX6_within 3 (some .boolean)]
def wsX5_warm : List Cond := .code yX5_warm cX5_warm 6 none :: ((wsX5_warm_r1 ++ wsX5_warm_r2) ++ wsX50 ++ wsX10)
def wsX5_goOn_r1 : List Cond := [Cond.methodLink RX5 65 yX5_heatLeft, Cond.instanceMethod yX5_heatLeft, Cond.selects RX5 yX5_heatLeft yX5_heatLeft, Cond.initialized RX5, Cond.code yX5_heatLeft cX5_heatLeft 4 (some .int), Cond.fieldLink RX5 42 "PanTales$Ways" "heats" "[I", Cond.static yX6_within, Cond.initialized RX6, Cond.code yX6_within cX6_within 3 (some .boolean), Cond.static yX6_isHouse, Cond.code yX6_isHouse cX6_isHouse 1 (some .boolean), Cond.static yX6_isIn, Cond.code yX6_isIn cX6_isIn 2 (some .boolean), Cond.methodLink RX5 28 yX5_leastWay, Cond.instanceMethod yX5_leastWay, Cond.selects RX5 yX5_leastWay yX5_leastWay, Cond.code yX5_leastWay cX5_leastWay 3 (some .int), Cond.fieldLink RX5 9 "PanTales$Ways" "least" "[I", Cond.static yX6_isPlace, Cond.code yX6_isPlace cX6_isPlace 1 (some .boolean), Cond.methodLink RX5 51 yX5_warm, Cond.instanceMethod yX5_warm, Cond.selects RX5 yX5_warm yX5_warm, Cond.code yX5_warm cX5_warm 6 none]
def wsX5_goOn_r2 : List Cond := [Cond.methodLink RX5 85 Lib.Math.max.name, Cond.static Lib.Math.max.name, Cond.initialized "java/lang/Math", Cond.code Lib.Math.max.name Lib.Math.max.code 2 (some .int), Cond.methodLink RX5 79 yX1_isDamp, Cond.instanceMethod yX1_isDamp, Cond.selects RX1 yX1_isDamp yX1_isDamp, Cond.initialized RX1, Cond.code yX1_isDamp cX1_isDamp 2 (some .boolean), Cond.fieldLink RX1 18 "PanTales$Close" "damps" "[I", Cond.methodLink RX5 82 yX1_isConvinced, Cond.instanceMethod yX1_isConvinced, Cond.selects RX1 yX1_isConvinced yX1_isConvinced, Cond.code yX1_isConvinced cX1_isConvinced 3 (some .boolean), Cond.fieldLink RX1 15 "PanTales$Close" "doubts" "[I"]
def wsX5_goOn : List Cond := .code yX5_goOn cX5_goOn 7 (some .boolean) :: ((wsX5_goOn_r1 ++ wsX5_goOn_r2) ++ wsX50 ++ wsX10)
def wsJ6_bitCount_0f7a4 : List Cond := .code yJ6_bitCount_0f7a4 cJ6_bitCount_0f7a4 1 (some .int) :: ([.constant RJ6 265 (1431655765), .constant RJ6 266 (858993459), .constant RJ6 267 (252645135)])
def wsX5_bestRound_r1 : List Cond := [Cond.fieldLink RX5 42 "PanTales$Ways" "heats" "[I", Cond.arrayClass .int, Cond.methodLink RX5 38 yX5_measure, Cond.instanceMethod yX5_measure, Cond.selects RX5 yX5_measure yX5_measure, Cond.initialized RX5, Cond.code yX5_measure cX5_measure 5 none, Cond.fieldLink RX5 9 "PanTales$Ways" "least" "[I", Cond.methodLink RX5 18 yX1_longBetween, Cond.instanceMethod yX1_longBetween, Cond.selects RX1 yX1_longBetween yX1_longBetween, Cond.initialized RX1, Cond.code yX1_longBetween cX1_longBetween 3 (some .int), Cond.fieldLink RX1 9 "PanTales$Close" "roads" "[I", Cond.static yX6_isPlace, Cond.initialized RX6, Cond.code yX6_isPlace cX6_isPlace 1 (some .boolean), Cond.methodLink RX5 24 yX5_shortenPast, Cond.instanceMethod yX5_shortenPast, Cond.selects RX5 yX5_shortenPast yX5_shortenPast, Cond.code yX5_shortenPast cX5_shortenPast 5 none, Cond.methodLink RX5 28 yX5_leastWay, Cond.instanceMethod yX5_leastWay, Cond.selects RX5 yX5_leastWay yX5_leastWay]
def wsX5_bestRound_r2 : List Cond := [Cond.code yX5_leastWay cX5_leastWay 3 (some .int), Cond.methodLink RX5 45 yJ7_fill_53178, Cond.static yJ7_fill_53178, Cond.initialized RJ7, Cond.code yJ7_fill_53178 cJ7_fill_53178 4 none, Cond.methodLink RX5 51 yX5_warm, Cond.instanceMethod yX5_warm, Cond.selects RX5 yX5_warm yX5_warm, Cond.code yX5_warm cX5_warm 6 none, Cond.methodLink RX5 85 Lib.Math.max.name, Cond.static Lib.Math.max.name, Cond.initialized "java/lang/Math", Cond.code Lib.Math.max.name Lib.Math.max.code 2 (some .int), Cond.methodLink RX5 79 yX1_isDamp, Cond.instanceMethod yX1_isDamp, Cond.selects RX1 yX1_isDamp yX1_isDamp, Cond.code yX1_isDamp cX1_isDamp 2 (some .boolean), Cond.fieldLink RX1 18 "PanTales$Close" "damps" "[I", Cond.static yX6_isHouse, Cond.code yX6_isHouse cX6_isHouse 1 (some .boolean), Cond.methodLink RX5 82 yX1_isConvinced, Cond.instanceMethod yX1_isConvinced, Cond.selects RX1 yX1_isConvinced yX1_isConvinced, Cond.code yX1_isConvinced cX1_isConvinced 3 (some .boolean)]
def wsX5_bestRound_r3 : List Cond := [Cond.fieldLink RX1 15 "PanTales$Close" "doubts" "[I", Cond.methodLink RX5 65 yX5_heatLeft, Cond.instanceMethod yX5_heatLeft, Cond.selects RX5 yX5_heatLeft yX5_heatLeft, Cond.code yX5_heatLeft cX5_heatLeft 4 (some .int), Cond.static yX6_within, Cond.code yX6_within cX6_within 3 (some .boolean), Cond.methodLink RX5 55 yX5_goOn, Cond.instanceMethod yX5_goOn, Cond.selects RX5 yX5_goOn yX5_goOn, Cond.code yX5_goOn cX5_goOn 7 (some .boolean), Cond.static yX6_isIn, Cond.code yX6_isIn cX6_isIn 2 (some .boolean), Cond.methodLink RX5 59 yJ6_bitCount_0f7a4, Cond.static yJ6_bitCount_0f7a4, Cond.initialized RJ6, Cond.code yJ6_bitCount_0f7a4 cJ6_bitCount_0f7a4 1 (some .int), Cond.constant RJ6 265 (1431655765), Cond.constant RJ6 266 (858993459), Cond.constant RJ6 267 (252645135)]
def wsX5_bestRound : List Cond := .code yX5_bestRound cX5_bestRound 5 (some .int) :: ((wsX5_bestRound_r1 ++ (wsX5_bestRound_r2 ++ wsX5_bestRound_r3)) ++ wsX50 ++ wsX10)
def wsX5_findNeighbours : List Cond := .code yX5_findNeighbours cX5_findNeighbours 5 none :: ([.fieldLink RX5 15 "PanTales$Ways" "neighbours" "[I", .methodLink RX5 18 yX1_longBetween, .instanceMethod yX1_longBetween, .selects RX1 yX1_longBetween yX1_longBetween, .initialized RX1, .code yX1_longBetween cX1_longBetween 3 (some .int), .fieldLink RX1 9 "PanTales$Close" "roads" "[I", .static yX6_isPlace, .initialized RX6, .code yX6_isPlace cX6_isPlace 1 (some .boolean)] ++ wsX50 ++ wsX10)
def wsX5_leadsTo : List Cond := .code yX5_leadsTo cX5_leadsTo 7 (some .boolean) :: ([.fieldLink RX5 15 "PanTales$Ways" "neighbours" "[I", .static yX6_isIn, .initialized RX6, .code yX6_isIn cX6_isIn 2 (some .boolean)] ++ wsX50)
def wsX5_fewestDamp_r1 : List Cond := [Cond.methodLink RX5 18 yX1_longBetween, Cond.instanceMethod yX1_longBetween, Cond.selects RX1 yX1_longBetween yX1_longBetween, Cond.initialized RX1, Cond.code yX1_longBetween cX1_longBetween 3 (some .int), Cond.fieldLink RX1 9 "PanTales$Close" "roads" "[I", Cond.static yX6_isPlace, Cond.initialized RX6, Cond.code yX6_isPlace cX6_isPlace 1 (some .boolean), Cond.methodLink RX5 90 yX5_findNeighbours, Cond.instanceMethod yX5_findNeighbours, Cond.selects RX5 yX5_findNeighbours yX5_findNeighbours, Cond.initialized RX5, Cond.code yX5_findNeighbours cX5_findNeighbours 5 none, Cond.fieldLink RX5 15 "PanTales$Ways" "neighbours" "[I", Cond.methodLink RX5 59 yJ6_bitCount_0f7a4, Cond.static yJ6_bitCount_0f7a4, Cond.initialized RJ6, Cond.code yJ6_bitCount_0f7a4 cJ6_bitCount_0f7a4 1 (some .int), Cond.constant RJ6 265 (1431655765), Cond.constant RJ6 266 (858993459), Cond.constant RJ6 267 (252645135), Cond.static yX6_isIn, Cond.code yX6_isIn cX6_isIn 2 (some .boolean)]
def wsX5_fewestDamp_r2 : List Cond := [Cond.methodLink RX5 93 yX5_leadsTo, Cond.instanceMethod yX5_leadsTo, Cond.selects RX5 yX5_leadsTo yX5_leadsTo, Cond.code yX5_leadsTo cX5_leadsTo 7 (some .boolean)]
def wsX5_fewestDamp : List Cond := .code yX5_fewestDamp cX5_fewestDamp 6 (some .int) :: ((wsX5_fewestDamp_r1 ++ wsX5_fewestDamp_r2) ++ wsX10 ++ wsX50)
def wsX6_init_r1 : List Cond := [Cond.methodLink RX6 3 objectInit, Cond.instanceMethod objectInit, Cond.code objectInit ⟨#[0xb1]⟩ 1 none, Cond.classLink RX6 9 RX1, Cond.instantiable RX1 12, Cond.initialized RX1, Cond.fieldLink RX6 12 "PanTales" "close" "LPanTales$Close;", Cond.fieldLink RX6 16 "PanTales" "draft" "LPanTales$Close;", Cond.fieldLink RX6 19 "PanTales" "images" "[LPanTales$Close;", Cond.classLink RX6 23 RX3, Cond.instantiable RX3 2, Cond.initialized RX3, Cond.fieldLink RX6 26 "PanTales" "pad" "LPanTales$Pad;", Cond.classLink RX6 30 RX2, Cond.instantiable RX2 6, Cond.initialized RX2, Cond.fieldLink RX6 33 "PanTales" "night" "LPanTales$Night;", Cond.classLink RX6 37 RX5, Cond.instantiable RX5 3, Cond.initialized RX5, Cond.fieldLink RX6 40 "PanTales" "ways" "LPanTales$Ways;", Cond.classLink RX6 44 RX4, Cond.instantiable RX4 4, Cond.initialized RX4]
def wsX6_init_r2 : List Cond := [Cond.fieldLink RX6 47 "PanTales" "sayings" "LPanTales$Sayings;", Cond.classLink RX6 51 RX0, Cond.instantiable RX0 3, Cond.initialized RX0, Cond.fieldLink RX6 54 "PanTales" "chances" "LPanTales$Chances;", Cond.methodLink RX6 11 yX1_init, Cond.instanceMethod yX1_init, Cond.code yX1_init cX1_init 2 none, Cond.methodLink RX1 3 objectInit, Cond.arrayClass .int, Cond.fieldLink RX1 9 "PanTales$Close" "roads" "[I", Cond.fieldLink RX1 15 "PanTales$Close" "doubts" "[I", Cond.fieldLink RX1 18 "PanTales$Close" "damps" "[I", Cond.fieldLink RX1 21 "PanTales$Close" "beliefs" "[I", Cond.fieldLink RX1 24 "PanTales$Close" "fadings" "[I", Cond.fieldLink RX1 27 "PanTales$Close" "sightBeds" "[I", Cond.fieldLink RX1 30 "PanTales$Close" "sightTales" "[I", Cond.fieldLink RX1 33 "PanTales$Close" "place" "I", Cond.methodLink RX1 37 yJ7_fill_53178, Cond.static yJ7_fill_53178, Cond.initialized RJ7, Cond.code yJ7_fill_53178 cJ7_fill_53178 4 none, Cond.instanceMethod yX3_init, Cond.code yX3_init cX3_init 1 none]
def wsX6_init_r3 : List Cond := [Cond.methodLink RX3 3 objectInit, Cond.fieldLink RX3 9 "PanTales$Pad" "signs" "[I", Cond.instanceMethod yX2_init, Cond.code yX2_init cX2_init 1 none, Cond.methodLink RX2 3 objectInit, Cond.instanceMethod yX5_init, Cond.code yX5_init cX5_init 1 none, Cond.methodLink RX5 3 objectInit, Cond.fieldLink RX5 9 "PanTales$Ways" "least" "[I", Cond.fieldLink RX5 15 "PanTales$Ways" "neighbours" "[I", Cond.instanceMethod yX4_init, Cond.code yX4_init cX4_init 1 none, Cond.methodLink RX4 3 objectInit, Cond.fieldLink RX4 9 "PanTales$Sayings" "faded" "[I", Cond.fieldLink RX4 15 "PanTales$Sayings" "twos" "[I", Cond.fieldLink RX4 18 "PanTales$Sayings" "left" "[I", Cond.instanceMethod yX0_init, Cond.code yX0_init cX0_init 1 none, Cond.methodLink RX0 3 objectInit, Cond.arrayClass .long, Cond.fieldLink RX0 9 "PanTales$Chances" "lastDoes" "[J", Cond.fieldLink RX0 15 "PanTales$Chances" "lastNot" "[J", Cond.fieldLink RX0 18 "PanTales$Chances" "takes" "[I"]
def wsX6_init : List Cond := .code yX6_init cX6_init 1 none :: ((wsX6_init_r1 ++ (wsX6_init_r2 ++ wsX6_init_r3)) ++ wsX10 ++ wsX60 ++ wsX30 ++ wsX20 ++ wsX50 ++ wsX40 ++ wsX00)
def wsX6_road : List Cond := .code yX6_road cX6_road 5 (some .int) :: ([.fieldLink RX6 12 "PanTales" "close" "LPanTales$Close;", .methodLink RX6 58 yX6_isPlace, .static yX6_isPlace, .initialized RX6, .code yX6_isPlace cX6_isPlace 1 (some .boolean), .methodLink RX6 62 yX6_within, .static yX6_within, .code yX6_within cX6_within 3 (some .boolean), .methodLink RX6 66 yX1_longBetween, .instanceMethod yX1_longBetween, .selects RX1 yX1_longBetween yX1_longBetween, .initialized RX1, .code yX1_longBetween cX1_longBetween 3 (some .int), .fieldLink RX1 9 "PanTales$Close" "roads" "[I", .methodLink RX6 70 yX1_layRoad, .instanceMethod yX1_layRoad, .selects RX1 yX1_layRoad yX1_layRoad, .code yX1_layRoad cX1_layRoad 4 none] ++ wsX60 ++ wsX10)
def wsX6_house : List Cond := .code yX6_house cX6_house 5 (some .int) :: ([.fieldLink RX6 12 "PanTales" "close" "LPanTales$Close;", .methodLink RX6 74 yX6_isHouse, .static yX6_isHouse, .initialized RX6, .code yX6_isHouse cX6_isHouse 1 (some .boolean), .methodLink RX6 62 yX6_within, .static yX6_within, .code yX6_within cX6_within 3 (some .boolean), .methodLink RX6 77 yX1_doubtOf, .instanceMethod yX1_doubtOf, .selects RX1 yX1_doubtOf yX1_doubtOf, .initialized RX1, .code yX1_doubtOf cX1_doubtOf 2 (some .int), .fieldLink RX1 15 "PanTales$Close" "doubts" "[I", .methodLink RX6 81 yX1_furnish, .instanceMethod yX1_furnish, .selects RX1 yX1_furnish yX1_furnish, .code yX1_furnish cX1_furnish 4 none, .fieldLink RX1 18 "PanTales$Close" "damps" "[I"] ++ wsX60 ++ wsX10)
def wsX6_tell : List Cond := .code yX6_tell cX6_tell 4 (some .int) :: ([.fieldLink RX6 12 "PanTales" "close" "LPanTales$Close;", .methodLink RX6 74 yX6_isHouse, .static yX6_isHouse, .initialized RX6, .code yX6_isHouse cX6_isHouse 1 (some .boolean), .methodLink RX6 84 yX6_isTale, .static yX6_isTale, .code yX6_isTale cX6_isTale 1 (some .boolean), .methodLink RX6 87 yX1_beliefOf, .instanceMethod yX1_beliefOf, .selects RX1 yX1_beliefOf yX1_beliefOf, .initialized RX1, .code yX1_beliefOf cX1_beliefOf 2 (some .int), .fieldLink RX1 21 "PanTales$Close" "beliefs" "[I", .methodLink RX6 90 yX1_convince, .instanceMethod yX1_convince, .selects RX1 yX1_convince yX1_convince, .code yX1_convince cX1_convince 3 none] ++ wsX60 ++ wsX10)
def wsX6_fade : List Cond := .code yX6_fade cX6_fade 4 (some .int) :: ([.fieldLink RX6 12 "PanTales" "close" "LPanTales$Close;", .methodLink RX6 84 yX6_isTale, .static yX6_isTale, .initialized RX6, .code yX6_isTale cX6_isTale 1 (some .boolean), .methodLink RX6 94 yX1_fadesInto, .instanceMethod yX1_fadesInto, .selects RX1 yX1_fadesInto yX1_fadesInto, .initialized RX1, .code yX1_fadesInto cX1_fadesInto 2 (some .int), .fieldLink RX1 24 "PanTales$Close" "fadings" "[I", .methodLink RX6 97 yX1_letFade, .instanceMethod yX1_letFade, .selects RX1 yX1_letFade yX1_letFade, .code yX1_letFade cX1_letFade 3 none] ++ wsX60 ++ wsX10)
def wsX6_say : List Cond := .code yX6_say cX6_say 2 (some .int) :: ([.fieldLink RX6 26 "PanTales" "pad" "LPanTales$Pad;", .methodLink RX6 62 yX6_within, .static yX6_within, .initialized RX6, .code yX6_within cX6_within 3 (some .boolean), .methodLink RX6 100 yX3_add, .instanceMethod yX3_add, .selects RX3 yX3_add yX3_add, .initialized RX3, .code yX3_add cX3_add 2 (some .boolean), .fieldLink RX3 15 "PanTales$Pad" "count" "I", .fieldLink RX3 9 "PanTales$Pad" "signs" "[I", .methodLink RX6 103 yX3_size, .instanceMethod yX3_size, .selects RX3 yX3_size yX3_size, .code yX3_size cX3_size 1 (some .int)] ++ wsX60 ++ wsX30)
def wsX6_wipe : List Cond := .code yX6_wipe cX6_wipe 2 (some .int) :: ([.fieldLink RX6 26 "PanTales" "pad" "LPanTales$Pad;", .methodLink RX6 103 yX3_size, .instanceMethod yX3_size, .selects RX3 yX3_size yX3_size, .initialized RX3, .code yX3_size cX3_size 1 (some .int), .fieldLink RX3 15 "PanTales$Pad" "count" "I", .methodLink RX6 107 yX3_clear, .instanceMethod yX3_clear, .selects RX3 yX3_clear yX3_clear, .code yX3_clear cX3_clear 1 none] ++ wsX60 ++ wsX30)
def wsX6_judge_r1 : List Cond := [Cond.fieldLink RX6 33 "PanTales" "night" "LPanTales$Night;", Cond.fieldLink RX6 26 "PanTales" "pad" "LPanTales$Pad;", Cond.fieldLink RX6 16 "PanTales" "draft" "LPanTales$Close;", Cond.fieldLink RX6 12 "PanTales" "close" "LPanTales$Close;", Cond.methodLink RX6 62 yX6_within, Cond.static yX6_within, Cond.initialized RX6, Cond.code yX6_within cX6_within 3 (some .boolean), Cond.methodLink RX6 113 yX2_pass, Cond.instanceMethod yX2_pass, Cond.selects RX2 yX2_pass yX2_pass, Cond.initialized RX2, Cond.code yX2_pass cX2_pass 7 (some .int), Cond.fieldLink RX2 9 "PanTales$Night" "acts" "I", Cond.fieldLink RX2 15 "PanTales$Night" "beds" "I", Cond.fieldLink RX2 18 "PanTales$Night" "hinderedAct" "I", Cond.fieldLink RX2 21 "PanTales$Night" "reason" "I", Cond.fieldLink RX2 24 "PanTales$Night" "otherAct" "I", Cond.fieldLink RX2 27 "PanTales$Night" "otherHouse" "I", Cond.methodLink RX2 30 yX3_faultPlace, Cond.instanceMethod yX3_faultPlace, Cond.selects RX3 yX3_faultPlace yX3_faultPlace, Cond.initialized RX3, Cond.code yX3_faultPlace cX3_faultPlace 3 (some .int)]
def wsX6_judge_r2 : List Cond := [Cond.fieldLink RX3 15 "PanTales$Pad" "count" "I", Cond.methodLink RX3 30 yX3_kindAt, Cond.instanceMethod yX3_kindAt, Cond.selects RX3 yX3_kindAt yX3_kindAt, Cond.code yX3_kindAt cX3_kindAt 2 (some .int), Cond.methodLink RX3 23 yX3_signAt, Cond.instanceMethod yX3_signAt, Cond.selects RX3 yX3_signAt yX3_signAt, Cond.code yX3_signAt cX3_signAt 2 (some .int), Cond.fieldLink RX3 9 "PanTales$Pad" "signs" "[I", Cond.methodLink RX3 27 yX3_placeAt, Cond.instanceMethod yX3_placeAt, Cond.selects RX3 yX3_placeAt yX3_placeAt, Cond.code yX3_placeAt cX3_placeAt 3 (some .int), Cond.methodLink RX3 33 yX3_digitAt, Cond.instanceMethod yX3_digitAt, Cond.selects RX3 yX3_digitAt yX3_digitAt, Cond.code yX3_digitAt cX3_digitAt 2 (some .int), Cond.methodLink RX2 36 yX1_copyFrom, Cond.instanceMethod yX1_copyFrom, Cond.selects RX1 yX1_copyFrom yX1_copyFrom, Cond.initialized RX1, Cond.code yX1_copyFrom cX1_copyFrom 2 none, Cond.fieldLink RX1 9 "PanTales$Close" "roads" "[I"]
def wsX6_judge_r3 : List Cond := [Cond.methodLink RX1 43 arraycopyName, Cond.native arraycopyName, Cond.static arraycopyName, Cond.initialized "java/lang/System", Cond.fieldLink RX1 15 "PanTales$Close" "doubts" "[I", Cond.fieldLink RX1 18 "PanTales$Close" "damps" "[I", Cond.fieldLink RX1 21 "PanTales$Close" "beliefs" "[I", Cond.fieldLink RX1 24 "PanTales$Close" "fadings" "[I", Cond.fieldLink RX1 27 "PanTales$Close" "sightBeds" "[I", Cond.fieldLink RX1 30 "PanTales$Close" "sightTales" "[I", Cond.fieldLink RX1 49 "PanTales$Close" "sights" "I", Cond.fieldLink RX1 33 "PanTales$Close" "place" "I", Cond.fieldLink RX1 52 "PanTales$Close" "heat" "I", Cond.fieldLink RX1 55 "PanTales$Close" "tale" "I", Cond.fieldLink RX1 58 "PanTales$Close" "mornings" "I", Cond.methodLink RX2 42 yX3_size, Cond.instanceMethod yX3_size, Cond.selects RX3 yX3_size yX3_size, Cond.code yX3_size cX3_size 1 (some .int), Cond.methodLink RX2 45 yX3_kindAt, Cond.methodLink RX2 49 yX3_whatAt, Cond.instanceMethod yX3_whatAt, Cond.selects RX3 yX3_whatAt yX3_whatAt, Cond.code yX3_whatAt cX3_whatAt 2 (some .int)]
def wsX6_judge_r4 : List Cond := [Cond.methodLink RX2 52 yX1_reasonAgainst, Cond.instanceMethod yX1_reasonAgainst, Cond.selects RX1 yX1_reasonAgainst yX1_reasonAgainst, Cond.code yX1_reasonAgainst cX1_reasonAgainst 3 (some .int), Cond.methodLink RX1 107 yX1_longBetween, Cond.instanceMethod yX1_longBetween, Cond.selects RX1 yX1_longBetween yX1_longBetween, Cond.code yX1_longBetween cX1_longBetween 3 (some .int), Cond.static yX6_isPlace, Cond.code yX6_isPlace cX6_isPlace 1 (some .boolean), Cond.methodLink RX2 56 yX3_digitAt, Cond.methodLink RX2 59 yX2_actOn, Cond.instanceMethod yX2_actOn, Cond.selects RX2 yX2_actOn yX2_actOn, Cond.code yX2_actOn cX2_actOn 7 none, Cond.methodLink RX2 63 yX1_panFact, Cond.instanceMethod yX1_panFact, Cond.selects RX1 yX1_panFact yX1_panFact, Cond.code yX1_panFact cX1_panFact 2 (some .int), Cond.methodLink RX2 66 yX1_beliefOf, Cond.instanceMethod yX1_beliefOf, Cond.selects RX1 yX1_beliefOf yX1_beliefOf, Cond.code yX1_beliefOf cX1_beliefOf 2 (some .int), Cond.static yX6_isHouse]
def wsX6_judge_r5 : List Cond := [Cond.code yX6_isHouse cX6_isHouse 1 (some .boolean), Cond.methodLink RX2 69 yX1_act, Cond.instanceMethod yX1_act, Cond.selects RX1 yX1_act yX1_act, Cond.code yX1_act cX1_act 4 none, Cond.methodLink RX1 110 Lib.Math.max.name, Cond.static Lib.Math.max.name, Cond.initialized "java/lang/Math", Cond.code Lib.Math.max.name Lib.Math.max.code 2 (some .int), Cond.methodLink RX1 119 Lib.Math.min.name, Cond.static Lib.Math.min.name, Cond.code Lib.Math.min.name Lib.Math.min.code 2 (some .int), Cond.methodLink RX1 115 yX1_warmBed, Cond.instanceMethod yX1_warmBed, Cond.selects RX1 yX1_warmBed yX1_warmBed, Cond.code yX1_warmBed cX1_warmBed 2 none, Cond.methodLink RX1 75 yX1_isDamp, Cond.instanceMethod yX1_isDamp, Cond.selects RX1 yX1_isDamp yX1_isDamp, Cond.code yX1_isDamp cX1_isDamp 2 (some .boolean), Cond.methodLink RX1 122 yX1_isConvinced, Cond.instanceMethod yX1_isConvinced, Cond.selects RX1 yX1_isConvinced yX1_isConvinced, Cond.code yX1_isConvinced cX1_isConvinced 3 (some .boolean)]
def wsX6_judge_r6 : List Cond := [Cond.methodLink RX1 125 yX1_convince, Cond.instanceMethod yX1_convince, Cond.selects RX1 yX1_convince yX1_convince, Cond.code yX1_convince cX1_convince 3 none, Cond.methodLink RX1 72 yX1_doubtOf, Cond.instanceMethod yX1_doubtOf, Cond.selects RX1 yX1_doubtOf yX1_doubtOf, Cond.code yX1_doubtOf cX1_doubtOf 2 (some .int), Cond.methodLink RX1 129 yX1_furnish, Cond.instanceMethod yX1_furnish, Cond.selects RX1 yX1_furnish yX1_furnish, Cond.code yX1_furnish cX1_furnish 4 none, Cond.methodLink RX1 89 yX1_fadesInto, Cond.instanceMethod yX1_fadesInto, Cond.selects RX1 yX1_fadesInto yX1_fadesInto, Cond.code yX1_fadesInto cX1_fadesInto 2 (some .int), Cond.static yX6_isTale, Cond.code yX6_isTale cX6_isTale 1 (some .boolean), Cond.methodLink RX1 37 yJ7_fill_53178, Cond.static yJ7_fill_53178, Cond.initialized RJ7, Cond.code yJ7_fill_53178 cJ7_fill_53178 4 none]
def wsX6_judge : List Cond := .code yX6_judge cX6_judge 3 (some .int) :: ((wsX6_judge_r1 ++ (wsX6_judge_r2 ++ (wsX6_judge_r3 ++ (wsX6_judge_r4 ++ (wsX6_judge_r5 ++ wsX6_judge_r6))))) ++ wsX60 ++ wsX20 ++ wsX30 ++ wsX10)
def wsX6_behind_r1 : List Cond := [Cond.fieldLink RX6 33 "PanTales" "night" "LPanTales$Night;", Cond.fieldLink RX6 26 "PanTales" "pad" "LPanTales$Pad;", Cond.fieldLink RX6 16 "PanTales" "draft" "LPanTales$Close;", Cond.fieldLink RX6 12 "PanTales" "close" "LPanTales$Close;", Cond.methodLink RX6 74 yX6_isHouse, Cond.static yX6_isHouse, Cond.initialized RX6, Cond.code yX6_isHouse cX6_isHouse 1 (some .boolean), Cond.methodLink RX6 62 yX6_within, Cond.static yX6_within, Cond.code yX6_within cX6_within 3 (some .boolean), Cond.methodLink RX6 113 yX2_pass, Cond.instanceMethod yX2_pass, Cond.selects RX2 yX2_pass yX2_pass, Cond.initialized RX2, Cond.code yX2_pass cX2_pass 7 (some .int), Cond.fieldLink RX2 9 "PanTales$Night" "acts" "I", Cond.fieldLink RX2 15 "PanTales$Night" "beds" "I", Cond.fieldLink RX2 18 "PanTales$Night" "hinderedAct" "I", Cond.fieldLink RX2 21 "PanTales$Night" "reason" "I", Cond.fieldLink RX2 24 "PanTales$Night" "otherAct" "I", Cond.fieldLink RX2 27 "PanTales$Night" "otherHouse" "I", Cond.methodLink RX2 30 yX3_faultPlace, Cond.instanceMethod yX3_faultPlace]
def wsX6_behind_r2 : List Cond := [Cond.selects RX3 yX3_faultPlace yX3_faultPlace, Cond.initialized RX3, Cond.code yX3_faultPlace cX3_faultPlace 3 (some .int), Cond.fieldLink RX3 15 "PanTales$Pad" "count" "I", Cond.methodLink RX3 30 yX3_kindAt, Cond.instanceMethod yX3_kindAt, Cond.selects RX3 yX3_kindAt yX3_kindAt, Cond.code yX3_kindAt cX3_kindAt 2 (some .int), Cond.methodLink RX3 23 yX3_signAt, Cond.instanceMethod yX3_signAt, Cond.selects RX3 yX3_signAt yX3_signAt, Cond.code yX3_signAt cX3_signAt 2 (some .int), Cond.fieldLink RX3 9 "PanTales$Pad" "signs" "[I", Cond.methodLink RX3 27 yX3_placeAt, Cond.instanceMethod yX3_placeAt, Cond.selects RX3 yX3_placeAt yX3_placeAt, Cond.code yX3_placeAt cX3_placeAt 3 (some .int), Cond.methodLink RX3 33 yX3_digitAt, Cond.instanceMethod yX3_digitAt, Cond.selects RX3 yX3_digitAt yX3_digitAt, Cond.code yX3_digitAt cX3_digitAt 2 (some .int), Cond.methodLink RX2 36 yX1_copyFrom, Cond.instanceMethod yX1_copyFrom, Cond.selects RX1 yX1_copyFrom yX1_copyFrom]
def wsX6_behind_r3 : List Cond := [Cond.initialized RX1, Cond.code yX1_copyFrom cX1_copyFrom 2 none, Cond.fieldLink RX1 9 "PanTales$Close" "roads" "[I", Cond.methodLink RX1 43 arraycopyName, Cond.native arraycopyName, Cond.static arraycopyName, Cond.initialized "java/lang/System", Cond.fieldLink RX1 15 "PanTales$Close" "doubts" "[I", Cond.fieldLink RX1 18 "PanTales$Close" "damps" "[I", Cond.fieldLink RX1 21 "PanTales$Close" "beliefs" "[I", Cond.fieldLink RX1 24 "PanTales$Close" "fadings" "[I", Cond.fieldLink RX1 27 "PanTales$Close" "sightBeds" "[I", Cond.fieldLink RX1 30 "PanTales$Close" "sightTales" "[I", Cond.fieldLink RX1 49 "PanTales$Close" "sights" "I", Cond.fieldLink RX1 33 "PanTales$Close" "place" "I", Cond.fieldLink RX1 52 "PanTales$Close" "heat" "I", Cond.fieldLink RX1 55 "PanTales$Close" "tale" "I", Cond.fieldLink RX1 58 "PanTales$Close" "mornings" "I", Cond.methodLink RX2 42 yX3_size, Cond.instanceMethod yX3_size, Cond.selects RX3 yX3_size yX3_size, Cond.code yX3_size cX3_size 1 (some .int), Cond.methodLink RX2 45 yX3_kindAt, Cond.methodLink RX2 49 yX3_whatAt]
def wsX6_behind_r4 : List Cond := [Cond.instanceMethod yX3_whatAt, Cond.selects RX3 yX3_whatAt yX3_whatAt, Cond.code yX3_whatAt cX3_whatAt 2 (some .int), Cond.methodLink RX2 52 yX1_reasonAgainst, Cond.instanceMethod yX1_reasonAgainst, Cond.selects RX1 yX1_reasonAgainst yX1_reasonAgainst, Cond.code yX1_reasonAgainst cX1_reasonAgainst 3 (some .int), Cond.methodLink RX1 107 yX1_longBetween, Cond.instanceMethod yX1_longBetween, Cond.selects RX1 yX1_longBetween yX1_longBetween, Cond.code yX1_longBetween cX1_longBetween 3 (some .int), Cond.static yX6_isPlace, Cond.code yX6_isPlace cX6_isPlace 1 (some .boolean), Cond.methodLink RX2 56 yX3_digitAt, Cond.methodLink RX2 59 yX2_actOn, Cond.instanceMethod yX2_actOn, Cond.selects RX2 yX2_actOn yX2_actOn, Cond.code yX2_actOn cX2_actOn 7 none, Cond.methodLink RX2 63 yX1_panFact, Cond.instanceMethod yX1_panFact, Cond.selects RX1 yX1_panFact yX1_panFact, Cond.code yX1_panFact cX1_panFact 2 (some .int), Cond.methodLink RX2 66 yX1_beliefOf, Cond.instanceMethod yX1_beliefOf]
def wsX6_behind_r5 : List Cond := [Cond.selects RX1 yX1_beliefOf yX1_beliefOf, Cond.code yX1_beliefOf cX1_beliefOf 2 (some .int), Cond.methodLink RX2 69 yX1_act, Cond.instanceMethod yX1_act, Cond.selects RX1 yX1_act yX1_act, Cond.code yX1_act cX1_act 4 none, Cond.methodLink RX1 110 Lib.Math.max.name, Cond.static Lib.Math.max.name, Cond.initialized "java/lang/Math", Cond.code Lib.Math.max.name Lib.Math.max.code 2 (some .int), Cond.methodLink RX1 119 Lib.Math.min.name, Cond.static Lib.Math.min.name, Cond.code Lib.Math.min.name Lib.Math.min.code 2 (some .int), Cond.methodLink RX1 115 yX1_warmBed, Cond.instanceMethod yX1_warmBed, Cond.selects RX1 yX1_warmBed yX1_warmBed, Cond.code yX1_warmBed cX1_warmBed 2 none, Cond.methodLink RX1 75 yX1_isDamp, Cond.instanceMethod yX1_isDamp, Cond.selects RX1 yX1_isDamp yX1_isDamp, Cond.code yX1_isDamp cX1_isDamp 2 (some .boolean), Cond.methodLink RX1 122 yX1_isConvinced, Cond.instanceMethod yX1_isConvinced, Cond.selects RX1 yX1_isConvinced yX1_isConvinced]
def wsX6_behind_r6 : List Cond := [Cond.code yX1_isConvinced cX1_isConvinced 3 (some .boolean), Cond.methodLink RX1 125 yX1_convince, Cond.instanceMethod yX1_convince, Cond.selects RX1 yX1_convince yX1_convince, Cond.code yX1_convince cX1_convince 3 none, Cond.methodLink RX1 72 yX1_doubtOf, Cond.instanceMethod yX1_doubtOf, Cond.selects RX1 yX1_doubtOf yX1_doubtOf, Cond.code yX1_doubtOf cX1_doubtOf 2 (some .int), Cond.methodLink RX1 129 yX1_furnish, Cond.instanceMethod yX1_furnish, Cond.selects RX1 yX1_furnish yX1_furnish, Cond.code yX1_furnish cX1_furnish 4 none, Cond.methodLink RX1 89 yX1_fadesInto, Cond.instanceMethod yX1_fadesInto, Cond.selects RX1 yX1_fadesInto yX1_fadesInto, Cond.code yX1_fadesInto cX1_fadesInto 2 (some .int), Cond.static yX6_isTale, Cond.code yX6_isTale cX6_isTale 1 (some .boolean), Cond.methodLink RX1 37 yJ7_fill_53178, Cond.static yJ7_fill_53178, Cond.initialized RJ7, Cond.code yJ7_fill_53178 cJ7_fill_53178 4 none, Cond.methodLink RX6 127 yX1_houseFact]
def wsX6_behind_r7 : List Cond := [Cond.instanceMethod yX1_houseFact, Cond.selects RX1 yX1_houseFact yX1_houseFact, Cond.code yX1_houseFact cX1_houseFact 3 (some .int), Cond.methodLink RX1 68 yX1_beliefOf]
def wsX6_behind : List Cond := .code yX6_behind cX6_behind 4 (some .int) :: ((wsX6_behind_r1 ++ (wsX6_behind_r2 ++ (wsX6_behind_r3 ++ (wsX6_behind_r4 ++ (wsX6_behind_r5 ++ (wsX6_behind_r6 ++ wsX6_behind_r7)))))) ++ wsX60 ++ wsX20 ++ wsX30 ++ wsX10)
def wsX6_pan_r1 : List Cond := [Cond.fieldLink RX6 33 "PanTales" "night" "LPanTales$Night;", Cond.fieldLink RX6 26 "PanTales" "pad" "LPanTales$Pad;", Cond.fieldLink RX6 16 "PanTales" "draft" "LPanTales$Close;", Cond.fieldLink RX6 12 "PanTales" "close" "LPanTales$Close;", Cond.methodLink RX6 62 yX6_within, Cond.static yX6_within, Cond.initialized RX6, Cond.code yX6_within cX6_within 3 (some .boolean), Cond.methodLink RX6 113 yX2_pass, Cond.instanceMethod yX2_pass, Cond.selects RX2 yX2_pass yX2_pass, Cond.initialized RX2, Cond.code yX2_pass cX2_pass 7 (some .int), Cond.fieldLink RX2 9 "PanTales$Night" "acts" "I", Cond.fieldLink RX2 15 "PanTales$Night" "beds" "I", Cond.fieldLink RX2 18 "PanTales$Night" "hinderedAct" "I", Cond.fieldLink RX2 21 "PanTales$Night" "reason" "I", Cond.fieldLink RX2 24 "PanTales$Night" "otherAct" "I", Cond.fieldLink RX2 27 "PanTales$Night" "otherHouse" "I", Cond.methodLink RX2 30 yX3_faultPlace, Cond.instanceMethod yX3_faultPlace, Cond.selects RX3 yX3_faultPlace yX3_faultPlace, Cond.initialized RX3, Cond.code yX3_faultPlace cX3_faultPlace 3 (some .int)]
def wsX6_pan_r2 : List Cond := [Cond.fieldLink RX3 15 "PanTales$Pad" "count" "I", Cond.methodLink RX3 30 yX3_kindAt, Cond.instanceMethod yX3_kindAt, Cond.selects RX3 yX3_kindAt yX3_kindAt, Cond.code yX3_kindAt cX3_kindAt 2 (some .int), Cond.methodLink RX3 23 yX3_signAt, Cond.instanceMethod yX3_signAt, Cond.selects RX3 yX3_signAt yX3_signAt, Cond.code yX3_signAt cX3_signAt 2 (some .int), Cond.fieldLink RX3 9 "PanTales$Pad" "signs" "[I", Cond.methodLink RX3 27 yX3_placeAt, Cond.instanceMethod yX3_placeAt, Cond.selects RX3 yX3_placeAt yX3_placeAt, Cond.code yX3_placeAt cX3_placeAt 3 (some .int), Cond.methodLink RX3 33 yX3_digitAt, Cond.instanceMethod yX3_digitAt, Cond.selects RX3 yX3_digitAt yX3_digitAt, Cond.code yX3_digitAt cX3_digitAt 2 (some .int), Cond.methodLink RX2 36 yX1_copyFrom, Cond.instanceMethod yX1_copyFrom, Cond.selects RX1 yX1_copyFrom yX1_copyFrom, Cond.initialized RX1, Cond.code yX1_copyFrom cX1_copyFrom 2 none, Cond.fieldLink RX1 9 "PanTales$Close" "roads" "[I"]
def wsX6_pan_r3 : List Cond := [Cond.methodLink RX1 43 arraycopyName, Cond.native arraycopyName, Cond.static arraycopyName, Cond.initialized "java/lang/System", Cond.fieldLink RX1 15 "PanTales$Close" "doubts" "[I", Cond.fieldLink RX1 18 "PanTales$Close" "damps" "[I", Cond.fieldLink RX1 21 "PanTales$Close" "beliefs" "[I", Cond.fieldLink RX1 24 "PanTales$Close" "fadings" "[I", Cond.fieldLink RX1 27 "PanTales$Close" "sightBeds" "[I", Cond.fieldLink RX1 30 "PanTales$Close" "sightTales" "[I", Cond.fieldLink RX1 49 "PanTales$Close" "sights" "I", Cond.fieldLink RX1 33 "PanTales$Close" "place" "I", Cond.fieldLink RX1 52 "PanTales$Close" "heat" "I", Cond.fieldLink RX1 55 "PanTales$Close" "tale" "I", Cond.fieldLink RX1 58 "PanTales$Close" "mornings" "I", Cond.methodLink RX2 42 yX3_size, Cond.instanceMethod yX3_size, Cond.selects RX3 yX3_size yX3_size, Cond.code yX3_size cX3_size 1 (some .int), Cond.methodLink RX2 45 yX3_kindAt, Cond.methodLink RX2 49 yX3_whatAt, Cond.instanceMethod yX3_whatAt, Cond.selects RX3 yX3_whatAt yX3_whatAt, Cond.code yX3_whatAt cX3_whatAt 2 (some .int)]
def wsX6_pan_r4 : List Cond := [Cond.methodLink RX2 52 yX1_reasonAgainst, Cond.instanceMethod yX1_reasonAgainst, Cond.selects RX1 yX1_reasonAgainst yX1_reasonAgainst, Cond.code yX1_reasonAgainst cX1_reasonAgainst 3 (some .int), Cond.methodLink RX1 107 yX1_longBetween, Cond.instanceMethod yX1_longBetween, Cond.selects RX1 yX1_longBetween yX1_longBetween, Cond.code yX1_longBetween cX1_longBetween 3 (some .int), Cond.static yX6_isPlace, Cond.code yX6_isPlace cX6_isPlace 1 (some .boolean), Cond.methodLink RX2 56 yX3_digitAt, Cond.methodLink RX2 59 yX2_actOn, Cond.instanceMethod yX2_actOn, Cond.selects RX2 yX2_actOn yX2_actOn, Cond.code yX2_actOn cX2_actOn 7 none, Cond.methodLink RX2 63 yX1_panFact, Cond.instanceMethod yX1_panFact, Cond.selects RX1 yX1_panFact yX1_panFact, Cond.code yX1_panFact cX1_panFact 2 (some .int), Cond.methodLink RX2 66 yX1_beliefOf, Cond.instanceMethod yX1_beliefOf, Cond.selects RX1 yX1_beliefOf yX1_beliefOf, Cond.code yX1_beliefOf cX1_beliefOf 2 (some .int), Cond.static yX6_isHouse]
def wsX6_pan_r5 : List Cond := [Cond.code yX6_isHouse cX6_isHouse 1 (some .boolean), Cond.methodLink RX2 69 yX1_act, Cond.instanceMethod yX1_act, Cond.selects RX1 yX1_act yX1_act, Cond.code yX1_act cX1_act 4 none, Cond.methodLink RX1 110 Lib.Math.max.name, Cond.static Lib.Math.max.name, Cond.initialized "java/lang/Math", Cond.code Lib.Math.max.name Lib.Math.max.code 2 (some .int), Cond.methodLink RX1 119 Lib.Math.min.name, Cond.static Lib.Math.min.name, Cond.code Lib.Math.min.name Lib.Math.min.code 2 (some .int), Cond.methodLink RX1 115 yX1_warmBed, Cond.instanceMethod yX1_warmBed, Cond.selects RX1 yX1_warmBed yX1_warmBed, Cond.code yX1_warmBed cX1_warmBed 2 none, Cond.methodLink RX1 75 yX1_isDamp, Cond.instanceMethod yX1_isDamp, Cond.selects RX1 yX1_isDamp yX1_isDamp, Cond.code yX1_isDamp cX1_isDamp 2 (some .boolean), Cond.methodLink RX1 122 yX1_isConvinced, Cond.instanceMethod yX1_isConvinced, Cond.selects RX1 yX1_isConvinced yX1_isConvinced, Cond.code yX1_isConvinced cX1_isConvinced 3 (some .boolean)]
def wsX6_pan_r6 : List Cond := [Cond.methodLink RX1 125 yX1_convince, Cond.instanceMethod yX1_convince, Cond.selects RX1 yX1_convince yX1_convince, Cond.code yX1_convince cX1_convince 3 none, Cond.methodLink RX1 72 yX1_doubtOf, Cond.instanceMethod yX1_doubtOf, Cond.selects RX1 yX1_doubtOf yX1_doubtOf, Cond.code yX1_doubtOf cX1_doubtOf 2 (some .int), Cond.methodLink RX1 129 yX1_furnish, Cond.instanceMethod yX1_furnish, Cond.selects RX1 yX1_furnish yX1_furnish, Cond.code yX1_furnish cX1_furnish 4 none, Cond.methodLink RX1 89 yX1_fadesInto, Cond.instanceMethod yX1_fadesInto, Cond.selects RX1 yX1_fadesInto yX1_fadesInto, Cond.code yX1_fadesInto cX1_fadesInto 2 (some .int), Cond.static yX6_isTale, Cond.code yX6_isTale cX6_isTale 1 (some .boolean), Cond.methodLink RX1 37 yJ7_fill_53178, Cond.static yJ7_fill_53178, Cond.initialized RJ7, Cond.code yJ7_fill_53178 cJ7_fill_53178 4 none, Cond.methodLink RX6 130 yX1_panFact]
def wsX6_pan : List Cond := .code yX6_pan cX6_pan 3 (some .int) :: ((wsX6_pan_r1 ++ (wsX6_pan_r2 ++ (wsX6_pan_r3 ++ (wsX6_pan_r4 ++ (wsX6_pan_r5 ++ wsX6_pan_r6))))) ++ wsX60 ++ wsX20 ++ wsX30 ++ wsX10)
def wsX6_holds_r1 : List Cond := [Cond.fieldLink RX6 33 "PanTales" "night" "LPanTales$Night;", Cond.fieldLink RX6 26 "PanTales" "pad" "LPanTales$Pad;", Cond.fieldLink RX6 16 "PanTales" "draft" "LPanTales$Close;", Cond.fieldLink RX6 12 "PanTales" "close" "LPanTales$Close;", Cond.methodLink RX6 84 yX6_isTale, Cond.static yX6_isTale, Cond.initialized RX6, Cond.code yX6_isTale cX6_isTale 1 (some .boolean), Cond.methodLink RX6 113 yX2_pass, Cond.instanceMethod yX2_pass, Cond.selects RX2 yX2_pass yX2_pass, Cond.initialized RX2, Cond.code yX2_pass cX2_pass 7 (some .int), Cond.fieldLink RX2 9 "PanTales$Night" "acts" "I", Cond.fieldLink RX2 15 "PanTales$Night" "beds" "I", Cond.fieldLink RX2 18 "PanTales$Night" "hinderedAct" "I", Cond.fieldLink RX2 21 "PanTales$Night" "reason" "I", Cond.fieldLink RX2 24 "PanTales$Night" "otherAct" "I", Cond.fieldLink RX2 27 "PanTales$Night" "otherHouse" "I", Cond.methodLink RX2 30 yX3_faultPlace, Cond.instanceMethod yX3_faultPlace, Cond.selects RX3 yX3_faultPlace yX3_faultPlace, Cond.initialized RX3, Cond.code yX3_faultPlace cX3_faultPlace 3 (some .int)]
def wsX6_holds_r2 : List Cond := [Cond.fieldLink RX3 15 "PanTales$Pad" "count" "I", Cond.methodLink RX3 30 yX3_kindAt, Cond.instanceMethod yX3_kindAt, Cond.selects RX3 yX3_kindAt yX3_kindAt, Cond.code yX3_kindAt cX3_kindAt 2 (some .int), Cond.methodLink RX3 23 yX3_signAt, Cond.instanceMethod yX3_signAt, Cond.selects RX3 yX3_signAt yX3_signAt, Cond.code yX3_signAt cX3_signAt 2 (some .int), Cond.fieldLink RX3 9 "PanTales$Pad" "signs" "[I", Cond.static yX6_within, Cond.code yX6_within cX6_within 3 (some .boolean), Cond.methodLink RX3 27 yX3_placeAt, Cond.instanceMethod yX3_placeAt, Cond.selects RX3 yX3_placeAt yX3_placeAt, Cond.code yX3_placeAt cX3_placeAt 3 (some .int), Cond.methodLink RX3 33 yX3_digitAt, Cond.instanceMethod yX3_digitAt, Cond.selects RX3 yX3_digitAt yX3_digitAt, Cond.code yX3_digitAt cX3_digitAt 2 (some .int), Cond.methodLink RX2 36 yX1_copyFrom, Cond.instanceMethod yX1_copyFrom, Cond.selects RX1 yX1_copyFrom yX1_copyFrom, Cond.initialized RX1]
def wsX6_holds_r3 : List Cond := [Cond.code yX1_copyFrom cX1_copyFrom 2 none, Cond.fieldLink RX1 9 "PanTales$Close" "roads" "[I", Cond.methodLink RX1 43 arraycopyName, Cond.native arraycopyName, Cond.static arraycopyName, Cond.initialized "java/lang/System", Cond.fieldLink RX1 15 "PanTales$Close" "doubts" "[I", Cond.fieldLink RX1 18 "PanTales$Close" "damps" "[I", Cond.fieldLink RX1 21 "PanTales$Close" "beliefs" "[I", Cond.fieldLink RX1 24 "PanTales$Close" "fadings" "[I", Cond.fieldLink RX1 27 "PanTales$Close" "sightBeds" "[I", Cond.fieldLink RX1 30 "PanTales$Close" "sightTales" "[I", Cond.fieldLink RX1 49 "PanTales$Close" "sights" "I", Cond.fieldLink RX1 33 "PanTales$Close" "place" "I", Cond.fieldLink RX1 52 "PanTales$Close" "heat" "I", Cond.fieldLink RX1 55 "PanTales$Close" "tale" "I", Cond.fieldLink RX1 58 "PanTales$Close" "mornings" "I", Cond.methodLink RX2 42 yX3_size, Cond.instanceMethod yX3_size, Cond.selects RX3 yX3_size yX3_size, Cond.code yX3_size cX3_size 1 (some .int), Cond.methodLink RX2 45 yX3_kindAt, Cond.methodLink RX2 49 yX3_whatAt, Cond.instanceMethod yX3_whatAt]
def wsX6_holds_r4 : List Cond := [Cond.selects RX3 yX3_whatAt yX3_whatAt, Cond.code yX3_whatAt cX3_whatAt 2 (some .int), Cond.methodLink RX2 52 yX1_reasonAgainst, Cond.instanceMethod yX1_reasonAgainst, Cond.selects RX1 yX1_reasonAgainst yX1_reasonAgainst, Cond.code yX1_reasonAgainst cX1_reasonAgainst 3 (some .int), Cond.methodLink RX1 107 yX1_longBetween, Cond.instanceMethod yX1_longBetween, Cond.selects RX1 yX1_longBetween yX1_longBetween, Cond.code yX1_longBetween cX1_longBetween 3 (some .int), Cond.static yX6_isPlace, Cond.code yX6_isPlace cX6_isPlace 1 (some .boolean), Cond.methodLink RX2 56 yX3_digitAt, Cond.methodLink RX2 59 yX2_actOn, Cond.instanceMethod yX2_actOn, Cond.selects RX2 yX2_actOn yX2_actOn, Cond.code yX2_actOn cX2_actOn 7 none, Cond.methodLink RX2 63 yX1_panFact, Cond.instanceMethod yX1_panFact, Cond.selects RX1 yX1_panFact yX1_panFact, Cond.code yX1_panFact cX1_panFact 2 (some .int), Cond.methodLink RX2 66 yX1_beliefOf, Cond.instanceMethod yX1_beliefOf, Cond.selects RX1 yX1_beliefOf yX1_beliefOf]
def wsX6_holds_r5 : List Cond := [Cond.code yX1_beliefOf cX1_beliefOf 2 (some .int), Cond.static yX6_isHouse, Cond.code yX6_isHouse cX6_isHouse 1 (some .boolean), Cond.methodLink RX2 69 yX1_act, Cond.instanceMethod yX1_act, Cond.selects RX1 yX1_act yX1_act, Cond.code yX1_act cX1_act 4 none, Cond.methodLink RX1 110 Lib.Math.max.name, Cond.static Lib.Math.max.name, Cond.initialized "java/lang/Math", Cond.code Lib.Math.max.name Lib.Math.max.code 2 (some .int), Cond.methodLink RX1 119 Lib.Math.min.name, Cond.static Lib.Math.min.name, Cond.code Lib.Math.min.name Lib.Math.min.code 2 (some .int), Cond.methodLink RX1 115 yX1_warmBed, Cond.instanceMethod yX1_warmBed, Cond.selects RX1 yX1_warmBed yX1_warmBed, Cond.code yX1_warmBed cX1_warmBed 2 none, Cond.methodLink RX1 75 yX1_isDamp, Cond.instanceMethod yX1_isDamp, Cond.selects RX1 yX1_isDamp yX1_isDamp, Cond.code yX1_isDamp cX1_isDamp 2 (some .boolean), Cond.methodLink RX1 122 yX1_isConvinced, Cond.instanceMethod yX1_isConvinced]
def wsX6_holds_r6 : List Cond := [Cond.selects RX1 yX1_isConvinced yX1_isConvinced, Cond.code yX1_isConvinced cX1_isConvinced 3 (some .boolean), Cond.methodLink RX1 125 yX1_convince, Cond.instanceMethod yX1_convince, Cond.selects RX1 yX1_convince yX1_convince, Cond.code yX1_convince cX1_convince 3 none, Cond.methodLink RX1 72 yX1_doubtOf, Cond.instanceMethod yX1_doubtOf, Cond.selects RX1 yX1_doubtOf yX1_doubtOf, Cond.code yX1_doubtOf cX1_doubtOf 2 (some .int), Cond.methodLink RX1 129 yX1_furnish, Cond.instanceMethod yX1_furnish, Cond.selects RX1 yX1_furnish yX1_furnish, Cond.code yX1_furnish cX1_furnish 4 none, Cond.methodLink RX1 89 yX1_fadesInto, Cond.instanceMethod yX1_fadesInto, Cond.selects RX1 yX1_fadesInto yX1_fadesInto, Cond.code yX1_fadesInto cX1_fadesInto 2 (some .int), Cond.methodLink RX1 37 yJ7_fill_53178, Cond.static yJ7_fill_53178, Cond.initialized RJ7, Cond.code yJ7_fill_53178 cJ7_fill_53178 4 none, Cond.methodLink RX6 133 yX1_believersOf, Cond.instanceMethod yX1_believersOf]
def wsX6_holds_r7 : List Cond := [Cond.selects RX1 yX1_believersOf yX1_believersOf, Cond.code yX1_believersOf cX1_believersOf 4 (some .int)]
def wsX6_holds : List Cond := .code yX6_holds cX6_holds 3 (some .int) :: ((wsX6_holds_r1 ++ (wsX6_holds_r2 ++ (wsX6_holds_r3 ++ (wsX6_holds_r4 ++ (wsX6_holds_r5 ++ (wsX6_holds_r6 ++ wsX6_holds_r7)))))) ++ wsX60 ++ wsX20 ++ wsX30 ++ wsX10)
def wsX6_other_r1 : List Cond := [Cond.fieldLink RX6 33 "PanTales" "night" "LPanTales$Night;", Cond.fieldLink RX6 26 "PanTales" "pad" "LPanTales$Pad;", Cond.fieldLink RX6 16 "PanTales" "draft" "LPanTales$Close;", Cond.fieldLink RX6 12 "PanTales" "close" "LPanTales$Close;", Cond.methodLink RX6 62 yX6_within, Cond.static yX6_within, Cond.initialized RX6, Cond.code yX6_within cX6_within 3 (some .boolean), Cond.methodLink RX6 113 yX2_pass, Cond.instanceMethod yX2_pass, Cond.selects RX2 yX2_pass yX2_pass, Cond.initialized RX2, Cond.code yX2_pass cX2_pass 7 (some .int), Cond.fieldLink RX2 9 "PanTales$Night" "acts" "I", Cond.fieldLink RX2 15 "PanTales$Night" "beds" "I", Cond.fieldLink RX2 18 "PanTales$Night" "hinderedAct" "I", Cond.fieldLink RX2 21 "PanTales$Night" "reason" "I", Cond.fieldLink RX2 24 "PanTales$Night" "otherAct" "I", Cond.fieldLink RX2 27 "PanTales$Night" "otherHouse" "I", Cond.methodLink RX2 30 yX3_faultPlace, Cond.instanceMethod yX3_faultPlace, Cond.selects RX3 yX3_faultPlace yX3_faultPlace, Cond.initialized RX3, Cond.code yX3_faultPlace cX3_faultPlace 3 (some .int)]
def wsX6_other_r2 : List Cond := [Cond.fieldLink RX3 15 "PanTales$Pad" "count" "I", Cond.methodLink RX3 30 yX3_kindAt, Cond.instanceMethod yX3_kindAt, Cond.selects RX3 yX3_kindAt yX3_kindAt, Cond.code yX3_kindAt cX3_kindAt 2 (some .int), Cond.methodLink RX3 23 yX3_signAt, Cond.instanceMethod yX3_signAt, Cond.selects RX3 yX3_signAt yX3_signAt, Cond.code yX3_signAt cX3_signAt 2 (some .int), Cond.fieldLink RX3 9 "PanTales$Pad" "signs" "[I", Cond.methodLink RX3 27 yX3_placeAt, Cond.instanceMethod yX3_placeAt, Cond.selects RX3 yX3_placeAt yX3_placeAt, Cond.code yX3_placeAt cX3_placeAt 3 (some .int), Cond.methodLink RX3 33 yX3_digitAt, Cond.instanceMethod yX3_digitAt, Cond.selects RX3 yX3_digitAt yX3_digitAt, Cond.code yX3_digitAt cX3_digitAt 2 (some .int), Cond.methodLink RX2 36 yX1_copyFrom, Cond.instanceMethod yX1_copyFrom, Cond.selects RX1 yX1_copyFrom yX1_copyFrom, Cond.initialized RX1, Cond.code yX1_copyFrom cX1_copyFrom 2 none, Cond.fieldLink RX1 9 "PanTales$Close" "roads" "[I"]
def wsX6_other_r3 : List Cond := [Cond.methodLink RX1 43 arraycopyName, Cond.native arraycopyName, Cond.static arraycopyName, Cond.initialized "java/lang/System", Cond.fieldLink RX1 15 "PanTales$Close" "doubts" "[I", Cond.fieldLink RX1 18 "PanTales$Close" "damps" "[I", Cond.fieldLink RX1 21 "PanTales$Close" "beliefs" "[I", Cond.fieldLink RX1 24 "PanTales$Close" "fadings" "[I", Cond.fieldLink RX1 27 "PanTales$Close" "sightBeds" "[I", Cond.fieldLink RX1 30 "PanTales$Close" "sightTales" "[I", Cond.fieldLink RX1 49 "PanTales$Close" "sights" "I", Cond.fieldLink RX1 33 "PanTales$Close" "place" "I", Cond.fieldLink RX1 52 "PanTales$Close" "heat" "I", Cond.fieldLink RX1 55 "PanTales$Close" "tale" "I", Cond.fieldLink RX1 58 "PanTales$Close" "mornings" "I", Cond.methodLink RX2 42 yX3_size, Cond.instanceMethod yX3_size, Cond.selects RX3 yX3_size yX3_size, Cond.code yX3_size cX3_size 1 (some .int), Cond.methodLink RX2 45 yX3_kindAt, Cond.methodLink RX2 49 yX3_whatAt, Cond.instanceMethod yX3_whatAt, Cond.selects RX3 yX3_whatAt yX3_whatAt, Cond.code yX3_whatAt cX3_whatAt 2 (some .int)]
def wsX6_other_r4 : List Cond := [Cond.methodLink RX2 52 yX1_reasonAgainst, Cond.instanceMethod yX1_reasonAgainst, Cond.selects RX1 yX1_reasonAgainst yX1_reasonAgainst, Cond.code yX1_reasonAgainst cX1_reasonAgainst 3 (some .int), Cond.methodLink RX1 107 yX1_longBetween, Cond.instanceMethod yX1_longBetween, Cond.selects RX1 yX1_longBetween yX1_longBetween, Cond.code yX1_longBetween cX1_longBetween 3 (some .int), Cond.static yX6_isPlace, Cond.code yX6_isPlace cX6_isPlace 1 (some .boolean), Cond.methodLink RX2 56 yX3_digitAt, Cond.methodLink RX2 59 yX2_actOn, Cond.instanceMethod yX2_actOn, Cond.selects RX2 yX2_actOn yX2_actOn, Cond.code yX2_actOn cX2_actOn 7 none, Cond.methodLink RX2 63 yX1_panFact, Cond.instanceMethod yX1_panFact, Cond.selects RX1 yX1_panFact yX1_panFact, Cond.code yX1_panFact cX1_panFact 2 (some .int), Cond.methodLink RX2 66 yX1_beliefOf, Cond.instanceMethod yX1_beliefOf, Cond.selects RX1 yX1_beliefOf yX1_beliefOf, Cond.code yX1_beliefOf cX1_beliefOf 2 (some .int), Cond.static yX6_isHouse]
def wsX6_other_r5 : List Cond := [Cond.code yX6_isHouse cX6_isHouse 1 (some .boolean), Cond.methodLink RX2 69 yX1_act, Cond.instanceMethod yX1_act, Cond.selects RX1 yX1_act yX1_act, Cond.code yX1_act cX1_act 4 none, Cond.methodLink RX1 110 Lib.Math.max.name, Cond.static Lib.Math.max.name, Cond.initialized "java/lang/Math", Cond.code Lib.Math.max.name Lib.Math.max.code 2 (some .int), Cond.methodLink RX1 119 Lib.Math.min.name, Cond.static Lib.Math.min.name, Cond.code Lib.Math.min.name Lib.Math.min.code 2 (some .int), Cond.methodLink RX1 115 yX1_warmBed, Cond.instanceMethod yX1_warmBed, Cond.selects RX1 yX1_warmBed yX1_warmBed, Cond.code yX1_warmBed cX1_warmBed 2 none, Cond.methodLink RX1 75 yX1_isDamp, Cond.instanceMethod yX1_isDamp, Cond.selects RX1 yX1_isDamp yX1_isDamp, Cond.code yX1_isDamp cX1_isDamp 2 (some .boolean), Cond.methodLink RX1 122 yX1_isConvinced, Cond.instanceMethod yX1_isConvinced, Cond.selects RX1 yX1_isConvinced yX1_isConvinced, Cond.code yX1_isConvinced cX1_isConvinced 3 (some .boolean)]
def wsX6_other_r6 : List Cond := [Cond.methodLink RX1 125 yX1_convince, Cond.instanceMethod yX1_convince, Cond.selects RX1 yX1_convince yX1_convince, Cond.code yX1_convince cX1_convince 3 none, Cond.methodLink RX1 72 yX1_doubtOf, Cond.instanceMethod yX1_doubtOf, Cond.selects RX1 yX1_doubtOf yX1_doubtOf, Cond.code yX1_doubtOf cX1_doubtOf 2 (some .int), Cond.methodLink RX1 129 yX1_furnish, Cond.instanceMethod yX1_furnish, Cond.selects RX1 yX1_furnish yX1_furnish, Cond.code yX1_furnish cX1_furnish 4 none, Cond.methodLink RX1 89 yX1_fadesInto, Cond.instanceMethod yX1_fadesInto, Cond.selects RX1 yX1_fadesInto yX1_fadesInto, Cond.code yX1_fadesInto cX1_fadesInto 2 (some .int), Cond.static yX6_isTale, Cond.code yX6_isTale cX6_isTale 1 (some .boolean), Cond.methodLink RX1 37 yJ7_fill_53178, Cond.static yJ7_fill_53178, Cond.initialized RJ7, Cond.code yJ7_fill_53178 cJ7_fill_53178 4 none]
def wsX6_other : List Cond := .code yX6_other cX6_other 3 (some .int) :: ((wsX6_other_r1 ++ (wsX6_other_r2 ++ (wsX6_other_r3 ++ (wsX6_other_r4 ++ (wsX6_other_r5 ++ wsX6_other_r6))))) ++ wsX60 ++ wsX20 ++ wsX30 ++ wsX10)
def wsX6_done_r1 : List Cond := [Cond.fieldLink RX6 33 "PanTales" "night" "LPanTales$Night;", Cond.fieldLink RX6 26 "PanTales" "pad" "LPanTales$Pad;", Cond.fieldLink RX6 16 "PanTales" "draft" "LPanTales$Close;", Cond.fieldLink RX6 12 "PanTales" "close" "LPanTales$Close;", Cond.methodLink RX6 113 yX2_pass, Cond.instanceMethod yX2_pass, Cond.selects RX2 yX2_pass yX2_pass, Cond.initialized RX2, Cond.code yX2_pass cX2_pass 7 (some .int), Cond.fieldLink RX2 9 "PanTales$Night" "acts" "I", Cond.fieldLink RX2 15 "PanTales$Night" "beds" "I", Cond.fieldLink RX2 18 "PanTales$Night" "hinderedAct" "I", Cond.fieldLink RX2 21 "PanTales$Night" "reason" "I", Cond.fieldLink RX2 24 "PanTales$Night" "otherAct" "I", Cond.fieldLink RX2 27 "PanTales$Night" "otherHouse" "I", Cond.methodLink RX2 30 yX3_faultPlace, Cond.instanceMethod yX3_faultPlace, Cond.selects RX3 yX3_faultPlace yX3_faultPlace, Cond.initialized RX3, Cond.code yX3_faultPlace cX3_faultPlace 3 (some .int), Cond.fieldLink RX3 15 "PanTales$Pad" "count" "I", Cond.methodLink RX3 30 yX3_kindAt, Cond.instanceMethod yX3_kindAt, Cond.selects RX3 yX3_kindAt yX3_kindAt]
def wsX6_done_r2 : List Cond := [Cond.code yX3_kindAt cX3_kindAt 2 (some .int), Cond.methodLink RX3 23 yX3_signAt, Cond.instanceMethod yX3_signAt, Cond.selects RX3 yX3_signAt yX3_signAt, Cond.code yX3_signAt cX3_signAt 2 (some .int), Cond.fieldLink RX3 9 "PanTales$Pad" "signs" "[I", Cond.static yX6_within, Cond.initialized RX6, Cond.code yX6_within cX6_within 3 (some .boolean), Cond.methodLink RX3 27 yX3_placeAt, Cond.instanceMethod yX3_placeAt, Cond.selects RX3 yX3_placeAt yX3_placeAt, Cond.code yX3_placeAt cX3_placeAt 3 (some .int), Cond.methodLink RX3 33 yX3_digitAt, Cond.instanceMethod yX3_digitAt, Cond.selects RX3 yX3_digitAt yX3_digitAt, Cond.code yX3_digitAt cX3_digitAt 2 (some .int), Cond.methodLink RX2 36 yX1_copyFrom, Cond.instanceMethod yX1_copyFrom, Cond.selects RX1 yX1_copyFrom yX1_copyFrom, Cond.initialized RX1, Cond.code yX1_copyFrom cX1_copyFrom 2 none, Cond.fieldLink RX1 9 "PanTales$Close" "roads" "[I", Cond.methodLink RX1 43 arraycopyName]
def wsX6_done_r3 : List Cond := [Cond.native arraycopyName, Cond.static arraycopyName, Cond.initialized "java/lang/System", Cond.fieldLink RX1 15 "PanTales$Close" "doubts" "[I", Cond.fieldLink RX1 18 "PanTales$Close" "damps" "[I", Cond.fieldLink RX1 21 "PanTales$Close" "beliefs" "[I", Cond.fieldLink RX1 24 "PanTales$Close" "fadings" "[I", Cond.fieldLink RX1 27 "PanTales$Close" "sightBeds" "[I", Cond.fieldLink RX1 30 "PanTales$Close" "sightTales" "[I", Cond.fieldLink RX1 49 "PanTales$Close" "sights" "I", Cond.fieldLink RX1 33 "PanTales$Close" "place" "I", Cond.fieldLink RX1 52 "PanTales$Close" "heat" "I", Cond.fieldLink RX1 55 "PanTales$Close" "tale" "I", Cond.fieldLink RX1 58 "PanTales$Close" "mornings" "I", Cond.methodLink RX2 42 yX3_size, Cond.instanceMethod yX3_size, Cond.selects RX3 yX3_size yX3_size, Cond.code yX3_size cX3_size 1 (some .int), Cond.methodLink RX2 45 yX3_kindAt, Cond.methodLink RX2 49 yX3_whatAt, Cond.instanceMethod yX3_whatAt, Cond.selects RX3 yX3_whatAt yX3_whatAt, Cond.code yX3_whatAt cX3_whatAt 2 (some .int), Cond.methodLink RX2 52 yX1_reasonAgainst]
def wsX6_done_r4 : List Cond := [Cond.instanceMethod yX1_reasonAgainst, Cond.selects RX1 yX1_reasonAgainst yX1_reasonAgainst, Cond.code yX1_reasonAgainst cX1_reasonAgainst 3 (some .int), Cond.methodLink RX1 107 yX1_longBetween, Cond.instanceMethod yX1_longBetween, Cond.selects RX1 yX1_longBetween yX1_longBetween, Cond.code yX1_longBetween cX1_longBetween 3 (some .int), Cond.static yX6_isPlace, Cond.code yX6_isPlace cX6_isPlace 1 (some .boolean), Cond.methodLink RX2 56 yX3_digitAt, Cond.methodLink RX2 59 yX2_actOn, Cond.instanceMethod yX2_actOn, Cond.selects RX2 yX2_actOn yX2_actOn, Cond.code yX2_actOn cX2_actOn 7 none, Cond.methodLink RX2 63 yX1_panFact, Cond.instanceMethod yX1_panFact, Cond.selects RX1 yX1_panFact yX1_panFact, Cond.code yX1_panFact cX1_panFact 2 (some .int), Cond.methodLink RX2 66 yX1_beliefOf, Cond.instanceMethod yX1_beliefOf, Cond.selects RX1 yX1_beliefOf yX1_beliefOf, Cond.code yX1_beliefOf cX1_beliefOf 2 (some .int), Cond.static yX6_isHouse, Cond.code yX6_isHouse cX6_isHouse 1 (some .boolean)]
def wsX6_done_r5 : List Cond := [Cond.methodLink RX2 69 yX1_act, Cond.instanceMethod yX1_act, Cond.selects RX1 yX1_act yX1_act, Cond.code yX1_act cX1_act 4 none, Cond.methodLink RX1 110 Lib.Math.max.name, Cond.static Lib.Math.max.name, Cond.initialized "java/lang/Math", Cond.code Lib.Math.max.name Lib.Math.max.code 2 (some .int), Cond.methodLink RX1 119 Lib.Math.min.name, Cond.static Lib.Math.min.name, Cond.code Lib.Math.min.name Lib.Math.min.code 2 (some .int), Cond.methodLink RX1 115 yX1_warmBed, Cond.instanceMethod yX1_warmBed, Cond.selects RX1 yX1_warmBed yX1_warmBed, Cond.code yX1_warmBed cX1_warmBed 2 none, Cond.methodLink RX1 75 yX1_isDamp, Cond.instanceMethod yX1_isDamp, Cond.selects RX1 yX1_isDamp yX1_isDamp, Cond.code yX1_isDamp cX1_isDamp 2 (some .boolean), Cond.methodLink RX1 122 yX1_isConvinced, Cond.instanceMethod yX1_isConvinced, Cond.selects RX1 yX1_isConvinced yX1_isConvinced, Cond.code yX1_isConvinced cX1_isConvinced 3 (some .boolean), Cond.methodLink RX1 125 yX1_convince]
def wsX6_done_r6 : List Cond := [Cond.instanceMethod yX1_convince, Cond.selects RX1 yX1_convince yX1_convince, Cond.code yX1_convince cX1_convince 3 none, Cond.methodLink RX1 72 yX1_doubtOf, Cond.instanceMethod yX1_doubtOf, Cond.selects RX1 yX1_doubtOf yX1_doubtOf, Cond.code yX1_doubtOf cX1_doubtOf 2 (some .int), Cond.methodLink RX1 129 yX1_furnish, Cond.instanceMethod yX1_furnish, Cond.selects RX1 yX1_furnish yX1_furnish, Cond.code yX1_furnish cX1_furnish 4 none, Cond.methodLink RX1 89 yX1_fadesInto, Cond.instanceMethod yX1_fadesInto, Cond.selects RX1 yX1_fadesInto yX1_fadesInto, Cond.code yX1_fadesInto cX1_fadesInto 2 (some .int), Cond.static yX6_isTale, Cond.code yX6_isTale cX6_isTale 1 (some .boolean), Cond.methodLink RX1 37 yJ7_fill_53178, Cond.static yJ7_fill_53178, Cond.initialized RJ7, Cond.code yJ7_fill_53178 cJ7_fill_53178 4 none, Cond.methodLink RX6 142 yX1_copyFrom, Cond.methodLink RX6 107 yX3_clear, Cond.instanceMethod yX3_clear]
def wsX6_done_r7 : List Cond := [Cond.selects RX3 yX3_clear yX3_clear, Cond.code yX3_clear cX3_clear 1 none]
def wsX6_done : List Cond := .code yX6_done cX6_done 2 (some .int) :: ((wsX6_done_r1 ++ (wsX6_done_r2 ++ (wsX6_done_r3 ++ (wsX6_done_r4 ++ (wsX6_done_r5 ++ (wsX6_done_r6 ++ wsX6_done_r7)))))) ++ wsX60 ++ wsX20 ++ wsX30 ++ wsX10)
def wsX6_near_r1 : List Cond := [Cond.fieldLink RX6 40 "PanTales" "ways" "LPanTales$Ways;", Cond.fieldLink RX6 12 "PanTales" "close" "LPanTales$Close;", Cond.methodLink RX6 58 yX6_isPlace, Cond.static yX6_isPlace, Cond.initialized RX6, Cond.code yX6_isPlace cX6_isPlace 1 (some .boolean), Cond.methodLink RX6 62 yX6_within, Cond.static yX6_within, Cond.code yX6_within cX6_within 3 (some .boolean), Cond.methodLink RX6 149 yX5_measure, Cond.instanceMethod yX5_measure, Cond.selects RX5 yX5_measure yX5_measure, Cond.initialized RX5, Cond.code yX5_measure cX5_measure 5 none, Cond.fieldLink RX5 9 "PanTales$Ways" "least" "[I", Cond.methodLink RX5 18 yX1_longBetween, Cond.instanceMethod yX1_longBetween, Cond.selects RX1 yX1_longBetween yX1_longBetween, Cond.initialized RX1, Cond.code yX1_longBetween cX1_longBetween 3 (some .int), Cond.fieldLink RX1 9 "PanTales$Close" "roads" "[I", Cond.methodLink RX5 24 yX5_shortenPast, Cond.instanceMethod yX5_shortenPast, Cond.selects RX5 yX5_shortenPast yX5_shortenPast]
def wsX6_near_r2 : List Cond := [Cond.code yX5_shortenPast cX5_shortenPast 5 none, Cond.methodLink RX5 28 yX5_leastWay, Cond.instanceMethod yX5_leastWay, Cond.selects RX5 yX5_leastWay yX5_leastWay, Cond.code yX5_leastWay cX5_leastWay 3 (some .int), Cond.methodLink RX6 152 yX5_howFar, Cond.instanceMethod yX5_howFar, Cond.selects RX5 yX5_howFar yX5_howFar, Cond.code yX5_howFar cX5_howFar 4 (some .int), Cond.methodLink RX6 155 yX5_nextPlace, Cond.instanceMethod yX5_nextPlace, Cond.selects RX5 yX5_nextPlace yX5_nextPlace, Cond.code yX5_nextPlace cX5_nextPlace 7 (some .int), Cond.methodLink RX5 35 yX5_howFar]
def wsX6_near : List Cond := .code yX6_near cX6_near 4 (some .int) :: ((wsX6_near_r1 ++ wsX6_near_r2) ++ wsX60 ++ wsX50 ++ wsX10)
def wsX6_round_r1 : List Cond := [Cond.fieldLink RX6 40 "PanTales" "ways" "LPanTales$Ways;", Cond.fieldLink RX6 12 "PanTales" "close" "LPanTales$Close;", Cond.methodLink RX6 62 yX6_within, Cond.static yX6_within, Cond.initialized RX6, Cond.code yX6_within cX6_within 3 (some .boolean), Cond.methodLink RX6 159 yX5_bestRound, Cond.instanceMethod yX5_bestRound, Cond.selects RX5 yX5_bestRound yX5_bestRound, Cond.initialized RX5, Cond.code yX5_bestRound cX5_bestRound 5 (some .int), Cond.fieldLink RX5 42 "PanTales$Ways" "heats" "[I", Cond.arrayClass .int, Cond.methodLink RX5 38 yX5_measure, Cond.instanceMethod yX5_measure, Cond.selects RX5 yX5_measure yX5_measure, Cond.code yX5_measure cX5_measure 5 none, Cond.fieldLink RX5 9 "PanTales$Ways" "least" "[I", Cond.methodLink RX5 18 yX1_longBetween, Cond.instanceMethod yX1_longBetween, Cond.selects RX1 yX1_longBetween yX1_longBetween, Cond.initialized RX1, Cond.code yX1_longBetween cX1_longBetween 3 (some .int), Cond.fieldLink RX1 9 "PanTales$Close" "roads" "[I"]
def wsX6_round_r2 : List Cond := [Cond.static yX6_isPlace, Cond.code yX6_isPlace cX6_isPlace 1 (some .boolean), Cond.methodLink RX5 24 yX5_shortenPast, Cond.instanceMethod yX5_shortenPast, Cond.selects RX5 yX5_shortenPast yX5_shortenPast, Cond.code yX5_shortenPast cX5_shortenPast 5 none, Cond.methodLink RX5 28 yX5_leastWay, Cond.instanceMethod yX5_leastWay, Cond.selects RX5 yX5_leastWay yX5_leastWay, Cond.code yX5_leastWay cX5_leastWay 3 (some .int), Cond.methodLink RX5 45 yJ7_fill_53178, Cond.static yJ7_fill_53178, Cond.initialized RJ7, Cond.code yJ7_fill_53178 cJ7_fill_53178 4 none, Cond.methodLink RX5 51 yX5_warm, Cond.instanceMethod yX5_warm, Cond.selects RX5 yX5_warm yX5_warm, Cond.code yX5_warm cX5_warm 6 none, Cond.methodLink RX5 85 Lib.Math.max.name, Cond.static Lib.Math.max.name, Cond.initialized "java/lang/Math", Cond.code Lib.Math.max.name Lib.Math.max.code 2 (some .int), Cond.methodLink RX5 79 yX1_isDamp, Cond.instanceMethod yX1_isDamp]
def wsX6_round_r3 : List Cond := [Cond.selects RX1 yX1_isDamp yX1_isDamp, Cond.code yX1_isDamp cX1_isDamp 2 (some .boolean), Cond.fieldLink RX1 18 "PanTales$Close" "damps" "[I", Cond.static yX6_isHouse, Cond.code yX6_isHouse cX6_isHouse 1 (some .boolean), Cond.methodLink RX5 82 yX1_isConvinced, Cond.instanceMethod yX1_isConvinced, Cond.selects RX1 yX1_isConvinced yX1_isConvinced, Cond.code yX1_isConvinced cX1_isConvinced 3 (some .boolean), Cond.fieldLink RX1 15 "PanTales$Close" "doubts" "[I", Cond.methodLink RX5 65 yX5_heatLeft, Cond.instanceMethod yX5_heatLeft, Cond.selects RX5 yX5_heatLeft yX5_heatLeft, Cond.code yX5_heatLeft cX5_heatLeft 4 (some .int), Cond.methodLink RX5 55 yX5_goOn, Cond.instanceMethod yX5_goOn, Cond.selects RX5 yX5_goOn yX5_goOn, Cond.code yX5_goOn cX5_goOn 7 (some .boolean), Cond.static yX6_isIn, Cond.code yX6_isIn cX6_isIn 2 (some .boolean), Cond.methodLink RX5 59 yJ6_bitCount_0f7a4, Cond.static yJ6_bitCount_0f7a4, Cond.initialized RJ6, Cond.code yJ6_bitCount_0f7a4 cJ6_bitCount_0f7a4 1 (some .int)]
def wsX6_round_r4 : List Cond := [Cond.constant RJ6 265 (1431655765), Cond.constant RJ6 266 (858993459), Cond.constant RJ6 267 (252645135), Cond.methodLink RX6 163 yJ6_bitCount_0f7a4]
def wsX6_round : List Cond := .code yX6_round cX6_round 4 (some .int) :: ((wsX6_round_r1 ++ (wsX6_round_r2 ++ (wsX6_round_r3 ++ wsX6_round_r4))) ++ wsX60 ++ wsX50 ++ wsX10)
def wsX6_keep_r1 : List Cond := [Cond.fieldLink RX6 40 "PanTales" "ways" "LPanTales$Ways;", Cond.fieldLink RX6 12 "PanTales" "close" "LPanTales$Close;", Cond.methodLink RX6 74 yX6_isHouse, Cond.static yX6_isHouse, Cond.initialized RX6, Cond.code yX6_isHouse cX6_isHouse 1 (some .boolean), Cond.methodLink RX6 62 yX6_within, Cond.static yX6_within, Cond.code yX6_within cX6_within 3 (some .boolean), Cond.methodLink RX6 168 yX5_fewestDamp, Cond.instanceMethod yX5_fewestDamp, Cond.selects RX5 yX5_fewestDamp yX5_fewestDamp, Cond.initialized RX5, Cond.code yX5_fewestDamp cX5_fewestDamp 6 (some .int), Cond.methodLink RX5 18 yX1_longBetween, Cond.instanceMethod yX1_longBetween, Cond.selects RX1 yX1_longBetween yX1_longBetween, Cond.initialized RX1, Cond.code yX1_longBetween cX1_longBetween 3 (some .int), Cond.fieldLink RX1 9 "PanTales$Close" "roads" "[I", Cond.static yX6_isPlace, Cond.code yX6_isPlace cX6_isPlace 1 (some .boolean), Cond.methodLink RX5 90 yX5_findNeighbours, Cond.instanceMethod yX5_findNeighbours]
def wsX6_keep_r2 : List Cond := [Cond.selects RX5 yX5_findNeighbours yX5_findNeighbours, Cond.code yX5_findNeighbours cX5_findNeighbours 5 none, Cond.fieldLink RX5 15 "PanTales$Ways" "neighbours" "[I", Cond.methodLink RX5 59 yJ6_bitCount_0f7a4, Cond.static yJ6_bitCount_0f7a4, Cond.initialized RJ6, Cond.code yJ6_bitCount_0f7a4 cJ6_bitCount_0f7a4 1 (some .int), Cond.constant RJ6 265 (1431655765), Cond.constant RJ6 266 (858993459), Cond.constant RJ6 267 (252645135), Cond.static yX6_isIn, Cond.code yX6_isIn cX6_isIn 2 (some .boolean), Cond.methodLink RX5 93 yX5_leadsTo, Cond.instanceMethod yX5_leadsTo, Cond.selects RX5 yX5_leadsTo yX5_leadsTo, Cond.code yX5_leadsTo cX5_leadsTo 7 (some .boolean), Cond.methodLink RX6 163 yJ6_bitCount_0f7a4]
def wsX6_keep : List Cond := .code yX6_keep cX6_keep 4 (some .int) :: ((wsX6_keep_r1 ++ wsX6_keep_r2) ++ wsX60 ++ wsX10 ++ wsX50)
def wsX6_faded_r1 : List Cond := [Cond.fieldLink RX6 12 "PanTales" "close" "LPanTales$Close;", Cond.methodLink RX6 84 yX6_isTale, Cond.static yX6_isTale, Cond.initialized RX6, Cond.code yX6_isTale cX6_isTale 1 (some .boolean), Cond.methodLink RX6 62 yX6_within, Cond.static yX6_within, Cond.code yX6_within cX6_within 3 (some .boolean), Cond.methodLink RX6 171 yX1_behindStirs, Cond.instanceMethod yX1_behindStirs, Cond.selects RX1 yX1_behindStirs yX1_behindStirs, Cond.initialized RX1, Cond.code yX1_behindStirs cX1_behindStirs 5 (some .int), Cond.methodLink RX1 89 yX1_fadesInto, Cond.instanceMethod yX1_fadesInto, Cond.selects RX1 yX1_fadesInto yX1_fadesInto, Cond.code yX1_fadesInto cX1_fadesInto 2 (some .int), Cond.fieldLink RX1 24 "PanTales$Close" "fadings" "[I", Cond.methodLink RX6 174 yX1_stirsToRing, Cond.instanceMethod yX1_stirsToRing, Cond.selects RX1 yX1_stirsToRing yX1_stirsToRing, Cond.code yX1_stirsToRing cX1_stirsToRing 5 (some .int), Cond.static yX6_isIn, Cond.code yX6_isIn cX6_isIn 2 (some .boolean)]
def wsX6_faded_r2 : List Cond := [Cond.methodLink RX6 177 yX1_stirsOfRing, Cond.instanceMethod yX1_stirsOfRing, Cond.selects RX1 yX1_stirsOfRing yX1_stirsOfRing, Cond.code yX1_stirsOfRing cX1_stirsOfRing 5 (some .int), Cond.methodLink RX1 96 yX1_stirsToRing, Cond.methodLink RX1 99 yX1_behindStirs]
def wsX6_faded : List Cond := .code yX6_faded cX6_faded 3 (some .int) :: ((wsX6_faded_r1 ++ wsX6_faded_r2) ++ wsX60 ++ wsX10)
def wsX6_seen : List Cond := .code yX6_seen cX6_seen 3 (some .int) :: ([.fieldLink RX6 12 "PanTales" "close" "LPanTales$Close;", .methodLink RX6 84 yX6_isTale, .static yX6_isTale, .initialized RX6, .code yX6_isTale cX6_isTale 1 (some .boolean), .methodLink RX6 62 yX6_within, .static yX6_within, .code yX6_within cX6_within 3 (some .boolean), .methodLink RX6 180 yX1_addSight, .instanceMethod yX1_addSight, .selects RX1 yX1_addSight yX1_addSight, .initialized RX1, .code yX1_addSight cX1_addSight 3 (some .boolean), .fieldLink RX1 49 "PanTales$Close" "sights" "I", .fieldLink RX1 27 "PanTales$Close" "sightBeds" "[I", .fieldLink RX1 30 "PanTales$Close" "sightTales" "[I", .methodLink RX6 184 yX1_sightCount, .instanceMethod yX1_sightCount, .selects RX1 yX1_sightCount yX1_sightCount, .code yX1_sightCount cX1_sightCount 1 (some .int)] ++ wsX60 ++ wsX10)
def wsX6_forget : List Cond := .code yX6_forget cX6_forget 2 (some .int) :: ([.fieldLink RX6 12 "PanTales" "close" "LPanTales$Close;", .methodLink RX6 184 yX1_sightCount, .instanceMethod yX1_sightCount, .selects RX1 yX1_sightCount yX1_sightCount, .initialized RX1, .code yX1_sightCount cX1_sightCount 1 (some .int), .fieldLink RX1 49 "PanTales$Close" "sights" "I", .methodLink RX6 187 yX1_dropSights, .instanceMethod yX1_dropSights, .selects RX1 yX1_dropSights yX1_dropSights, .code yX1_dropSights cX1_dropSights 1 none] ++ wsX60 ++ wsX10)
def wsX6_fits_r1 : List Cond := [Cond.fieldLink RX6 47 "PanTales" "sayings" "LPanTales$Sayings;", Cond.fieldLink RX6 12 "PanTales" "close" "LPanTales$Close;", Cond.methodLink RX6 190 yX4_gather, Cond.instanceMethod yX4_gather, Cond.selects RX4 yX4_gather yX4_gather, Cond.initialized RX4, Cond.code yX4_gather cX4_gather 4 none, Cond.fieldLink RX4 25 "PanTales$Sayings" "count" "I", Cond.fieldLink RX4 15 "PanTales$Sayings" "twos" "[I", Cond.methodLink RX4 21 yX4_fadeAll, Cond.instanceMethod yX4_fadeAll, Cond.selects RX4 yX4_fadeAll yX4_fadeAll, Cond.code yX4_fadeAll cX4_fadeAll 5 none, Cond.fieldLink RX4 9 "PanTales$Sayings" "faded" "[I", Cond.methodLink RX4 37 yX1_fadesInto, Cond.instanceMethod yX1_fadesInto, Cond.selects RX1 yX1_fadesInto yX1_fadesInto, Cond.initialized RX1, Cond.code yX1_fadesInto cX1_fadesInto 2 (some .int), Cond.fieldLink RX1 24 "PanTales$Close" "fadings" "[I", Cond.static yX6_isTale, Cond.initialized RX6, Cond.code yX6_isTale cX6_isTale 1 (some .boolean), Cond.methodLink RX4 29 yX4_isSo]
def wsX6_fits_r2 : List Cond := [Cond.instanceMethod yX4_isSo, Cond.selects RX4 yX4_isSo yX4_isSo, Cond.code yX4_isSo cX4_isSo 5 (some .boolean), Cond.methodLink RX4 43 yX1_sightCount, Cond.instanceMethod yX1_sightCount, Cond.selects RX1 yX1_sightCount yX1_sightCount, Cond.code yX1_sightCount cX1_sightCount 1 (some .int), Cond.fieldLink RX1 49 "PanTales$Close" "sights" "I", Cond.methodLink RX4 47 yX1_sightBed, Cond.instanceMethod yX1_sightBed, Cond.selects RX1 yX1_sightBed yX1_sightBed, Cond.code yX1_sightBed cX1_sightBed 2 (some .int), Cond.fieldLink RX1 27 "PanTales$Close" "sightBeds" "[I", Cond.static yX6_within, Cond.code yX6_within cX6_within 3 (some .boolean), Cond.methodLink RX4 50 yX4_taleInBed, Cond.instanceMethod yX4_taleInBed, Cond.selects RX4 yX4_taleInBed yX4_taleInBed, Cond.code yX4_taleInBed cX4_taleInBed 5 (some .int), Cond.methodLink RX4 54 yX1_sightTale, Cond.instanceMethod yX1_sightTale, Cond.selects RX1 yX1_sightTale yX1_sightTale, Cond.code yX1_sightTale cX1_sightTale 2 (some .int), Cond.fieldLink RX1 30 "PanTales$Close" "sightTales" "[I"]
def wsX6_fits_r3 : List Cond := [Cond.methodLink RX6 193 yX4_size, Cond.instanceMethod yX4_size, Cond.selects RX4 yX4_size yX4_size, Cond.code yX4_size cX4_size 1 (some .int), Cond.methodLink RX6 194 yX4_pick, Cond.instanceMethod yX4_pick, Cond.selects RX4 yX4_pick yX4_pick, Cond.code yX4_pick cX4_pick 2 (some .int)]
def wsX6_fits : List Cond := .code yX6_fits cX6_fits 2 (some .int) :: ((wsX6_fits_r1 ++ (wsX6_fits_r2 ++ wsX6_fits_r3)) ++ wsX60 ++ wsX40 ++ wsX10)
def wsX6_ask_r1 : List Cond := [Cond.fieldLink RX6 47 "PanTales" "sayings" "LPanTales$Sayings;", Cond.fieldLink RX6 12 "PanTales" "close" "LPanTales$Close;", Cond.methodLink RX6 62 yX6_within, Cond.static yX6_within, Cond.initialized RX6, Cond.code yX6_within cX6_within 3 (some .boolean), Cond.methodLink RX6 190 yX4_gather, Cond.instanceMethod yX4_gather, Cond.selects RX4 yX4_gather yX4_gather, Cond.initialized RX4, Cond.code yX4_gather cX4_gather 4 none, Cond.fieldLink RX4 25 "PanTales$Sayings" "count" "I", Cond.fieldLink RX4 15 "PanTales$Sayings" "twos" "[I", Cond.methodLink RX4 21 yX4_fadeAll, Cond.instanceMethod yX4_fadeAll, Cond.selects RX4 yX4_fadeAll yX4_fadeAll, Cond.code yX4_fadeAll cX4_fadeAll 5 none, Cond.fieldLink RX4 9 "PanTales$Sayings" "faded" "[I", Cond.methodLink RX4 37 yX1_fadesInto, Cond.instanceMethod yX1_fadesInto, Cond.selects RX1 yX1_fadesInto yX1_fadesInto, Cond.initialized RX1, Cond.code yX1_fadesInto cX1_fadesInto 2 (some .int), Cond.fieldLink RX1 24 "PanTales$Close" "fadings" "[I"]
def wsX6_ask_r2 : List Cond := [Cond.static yX6_isTale, Cond.code yX6_isTale cX6_isTale 1 (some .boolean), Cond.methodLink RX4 29 yX4_isSo, Cond.instanceMethod yX4_isSo, Cond.selects RX4 yX4_isSo yX4_isSo, Cond.code yX4_isSo cX4_isSo 5 (some .boolean), Cond.methodLink RX4 43 yX1_sightCount, Cond.instanceMethod yX1_sightCount, Cond.selects RX1 yX1_sightCount yX1_sightCount, Cond.code yX1_sightCount cX1_sightCount 1 (some .int), Cond.fieldLink RX1 49 "PanTales$Close" "sights" "I", Cond.methodLink RX4 47 yX1_sightBed, Cond.instanceMethod yX1_sightBed, Cond.selects RX1 yX1_sightBed yX1_sightBed, Cond.code yX1_sightBed cX1_sightBed 2 (some .int), Cond.fieldLink RX1 27 "PanTales$Close" "sightBeds" "[I", Cond.methodLink RX4 50 yX4_taleInBed, Cond.instanceMethod yX4_taleInBed, Cond.selects RX4 yX4_taleInBed yX4_taleInBed, Cond.code yX4_taleInBed cX4_taleInBed 5 (some .int), Cond.methodLink RX4 54 yX1_sightTale, Cond.instanceMethod yX1_sightTale, Cond.selects RX1 yX1_sightTale yX1_sightTale, Cond.code yX1_sightTale cX1_sightTale 2 (some .int)]
def wsX6_ask_r3 : List Cond := [Cond.fieldLink RX1 30 "PanTales$Close" "sightTales" "[I", Cond.methodLink RX6 197 yX4_bedToAsk, Cond.instanceMethod yX4_bedToAsk, Cond.selects RX4 yX4_bedToAsk yX4_bedToAsk, Cond.code yX4_bedToAsk cX4_bedToAsk 5 (some .int), Cond.methodLink RX4 61 yX4_mostLeft, Cond.instanceMethod yX4_mostLeft, Cond.selects RX4 yX4_mostLeft yX4_mostLeft, Cond.code yX4_mostLeft cX4_mostLeft 6 (some .int), Cond.fieldLink RX4 18 "PanTales$Sayings" "left" "[I", Cond.methodLink RX4 73 Lib.Math.max.name, Cond.static Lib.Math.max.name, Cond.initialized "java/lang/Math", Cond.code Lib.Math.max.name Lib.Math.max.code 2 (some .int), Cond.methodLink RX4 64 yJ7_fill_53178, Cond.static yJ7_fill_53178, Cond.initialized RJ7, Cond.code yJ7_fill_53178 cJ7_fill_53178 4 none, Cond.methodLink RX4 70 yX4_pick, Cond.instanceMethod yX4_pick, Cond.selects RX4 yX4_pick yX4_pick, Cond.code yX4_pick cX4_pick 2 (some .int), Cond.methodLink RX6 200 yX4_mostLeft]
def wsX6_ask : List Cond := .code yX6_ask cX6_ask 3 (some .int) :: ((wsX6_ask_r1 ++ (wsX6_ask_r2 ++ wsX6_ask_r3)) ++ wsX60 ++ wsX40 ++ wsX10)
def wsX6_embers : List Cond := .code yX6_embers cX6_embers 4 (some .int) :: ([.fieldLink RX6 54 "PanTales" "chances" "LPanTales$Chances;", .methodLink RX6 62 yX6_within, .static yX6_within, .initialized RX6, .code yX6_within cX6_within 3 (some .boolean), .methodLink RX6 217 yX0_firstTake, .instanceMethod yX0_firstTake, .selects RX0 yX0_firstTake yX0_firstTake, .initialized RX0, .code yX0_firstTake cX0_firstTake 3 (some .int), .fieldLink RX0 18 "PanTales$Chances" "takes" "[I", .methodLink RX0 38 yX0_leastTake, .instanceMethod yX0_leastTake, .selects RX0 yX0_leastTake yX0_leastTake, .code yX0_leastTake cX0_leastTake 4 (some .int)] ++ wsX60 ++ wsX00)
def wsX6_told_r1 : List Cond := [Cond.fieldLink RX6 26 "PanTales" "pad" "LPanTales$Pad;", Cond.fieldLink RX6 12 "PanTales" "close" "LPanTales$Close;", Cond.methodLink RX6 103 yX3_size, Cond.instanceMethod yX3_size, Cond.selects RX3 yX3_size yX3_size, Cond.initialized RX3, Cond.code yX3_size cX3_size 1 (some .int), Cond.fieldLink RX3 15 "PanTales$Pad" "count" "I", Cond.methodLink RX6 62 yX6_within, Cond.static yX6_within, Cond.initialized RX6, Cond.code yX6_within cX6_within 3 (some .boolean), Cond.methodLink RX6 130 yX1_panFact, Cond.instanceMethod yX1_panFact, Cond.selects RX1 yX1_panFact yX1_panFact, Cond.initialized RX1, Cond.code yX1_panFact cX1_panFact 2 (some .int), Cond.fieldLink RX1 33 "PanTales$Close" "place" "I", Cond.fieldLink RX1 52 "PanTales$Close" "heat" "I", Cond.fieldLink RX1 55 "PanTales$Close" "tale" "I", Cond.fieldLink RX1 58 "PanTales$Close" "mornings" "I", Cond.methodLink RX6 184 yX1_sightCount, Cond.instanceMethod yX1_sightCount, Cond.selects RX1 yX1_sightCount yX1_sightCount]
def wsX6_told_r2 : List Cond := [Cond.code yX1_sightCount cX1_sightCount 1 (some .int), Cond.fieldLink RX1 49 "PanTales$Close" "sights" "I", Cond.methodLink RX6 94 yX1_fadesInto, Cond.instanceMethod yX1_fadesInto, Cond.selects RX1 yX1_fadesInto yX1_fadesInto, Cond.code yX1_fadesInto cX1_fadesInto 2 (some .int), Cond.fieldLink RX1 24 "PanTales$Close" "fadings" "[I", Cond.static yX6_isTale, Cond.code yX6_isTale cX6_isTale 1 (some .boolean), Cond.methodLink RX6 127 yX1_houseFact, Cond.instanceMethod yX1_houseFact, Cond.selects RX1 yX1_houseFact yX1_houseFact, Cond.code yX1_houseFact cX1_houseFact 3 (some .int), Cond.methodLink RX1 68 yX1_beliefOf, Cond.instanceMethod yX1_beliefOf, Cond.selects RX1 yX1_beliefOf yX1_beliefOf, Cond.code yX1_beliefOf cX1_beliefOf 2 (some .int), Cond.fieldLink RX1 21 "PanTales$Close" "beliefs" "[I", Cond.static yX6_isHouse, Cond.code yX6_isHouse cX6_isHouse 1 (some .boolean), Cond.methodLink RX1 72 yX1_doubtOf, Cond.instanceMethod yX1_doubtOf, Cond.selects RX1 yX1_doubtOf yX1_doubtOf, Cond.code yX1_doubtOf cX1_doubtOf 2 (some .int)]
def wsX6_told_r3 : List Cond := [Cond.fieldLink RX1 15 "PanTales$Close" "doubts" "[I", Cond.methodLink RX1 75 yX1_isDamp, Cond.instanceMethod yX1_isDamp, Cond.selects RX1 yX1_isDamp yX1_isDamp, Cond.code yX1_isDamp cX1_isDamp 2 (some .boolean), Cond.fieldLink RX1 18 "PanTales$Close" "damps" "[I", Cond.methodLink RX6 58 yX6_isPlace, Cond.static yX6_isPlace, Cond.code yX6_isPlace cX6_isPlace 1 (some .boolean), Cond.methodLink RX6 66 yX1_longBetween, Cond.instanceMethod yX1_longBetween, Cond.selects RX1 yX1_longBetween yX1_longBetween, Cond.code yX1_longBetween cX1_longBetween 3 (some .int), Cond.fieldLink RX1 9 "PanTales$Close" "roads" "[I"]
def wsX6_told : List Cond := .code yX6_told cX6_told 3 (some .int) :: ((wsX6_told_r1 ++ (wsX6_told_r2 ++ wsX6_told_r3)) ++ wsX60 ++ wsX30 ++ wsX10)
def wsJ9_max_7cf53 : List Cond := .code yJ9_max_7cf53 cJ9_max_7cf53 2 (some .int) :: ([])
def wsJ9_min_7cf53 : List Cond := .code yJ9_min_7cf53 cJ9_min_7cf53 2 (some .int) :: ([])
def wsL_cell : List Cond := .code yL_cell cL_cell 3 (some .int) :: ([.constant RL 7 (4194303)])
def wsL_has : List Cond := .code yL_has cL_has 2 (some .boolean) :: ([])
def wsL_bits : List Cond := .code yL_bits cL_bits 3 (some .int) :: ([])
def wsL_law_r1 : List Cond := [Cond.classLink RL 15 RX6, Cond.instantiable RX6 8, Cond.initialized RX6, Cond.arrayClass .int, Cond.methodLink RL 47 yX6_init, Cond.instanceMethod yX6_init, Cond.code yX6_init cX6_init 1 none, Cond.methodLink RX6 3 objectInit, Cond.instanceMethod objectInit, Cond.code objectInit ⟨#[0xb1]⟩ 1 none, Cond.classLink RX6 9 RX1, Cond.instantiable RX1 12, Cond.initialized RX1, Cond.fieldLink RX6 12 "PanTales" "close" "LPanTales$Close;", Cond.fieldLink RX6 16 "PanTales" "draft" "LPanTales$Close;", Cond.fieldLink RX6 19 "PanTales" "images" "[LPanTales$Close;", Cond.classLink RX6 23 RX3, Cond.instantiable RX3 2, Cond.initialized RX3, Cond.fieldLink RX6 26 "PanTales" "pad" "LPanTales$Pad;", Cond.classLink RX6 30 RX2, Cond.instantiable RX2 6, Cond.initialized RX2, Cond.fieldLink RX6 33 "PanTales" "night" "LPanTales$Night;"]
def wsL_law_r2 : List Cond := [Cond.classLink RX6 37 RX5, Cond.instantiable RX5 3, Cond.initialized RX5, Cond.fieldLink RX6 40 "PanTales" "ways" "LPanTales$Ways;", Cond.classLink RX6 44 RX4, Cond.instantiable RX4 4, Cond.initialized RX4, Cond.fieldLink RX6 47 "PanTales" "sayings" "LPanTales$Sayings;", Cond.classLink RX6 51 RX0, Cond.instantiable RX0 3, Cond.initialized RX0, Cond.fieldLink RX6 54 "PanTales" "chances" "LPanTales$Chances;", Cond.methodLink RX6 11 yX1_init, Cond.instanceMethod yX1_init, Cond.code yX1_init cX1_init 2 none, Cond.methodLink RX1 3 objectInit, Cond.fieldLink RX1 9 "PanTales$Close" "roads" "[I", Cond.fieldLink RX1 15 "PanTales$Close" "doubts" "[I", Cond.fieldLink RX1 18 "PanTales$Close" "damps" "[I", Cond.fieldLink RX1 21 "PanTales$Close" "beliefs" "[I", Cond.fieldLink RX1 24 "PanTales$Close" "fadings" "[I", Cond.fieldLink RX1 27 "PanTales$Close" "sightBeds" "[I", Cond.fieldLink RX1 30 "PanTales$Close" "sightTales" "[I", Cond.fieldLink RX1 33 "PanTales$Close" "place" "I"]
def wsL_law_r3 : List Cond := [Cond.methodLink RX1 37 yJ7_fill_53178, Cond.static yJ7_fill_53178, Cond.initialized RJ7, Cond.code yJ7_fill_53178 cJ7_fill_53178 4 none, Cond.instanceMethod yX3_init, Cond.code yX3_init cX3_init 1 none, Cond.methodLink RX3 3 objectInit, Cond.fieldLink RX3 9 "PanTales$Pad" "signs" "[I", Cond.instanceMethod yX2_init, Cond.code yX2_init cX2_init 1 none, Cond.methodLink RX2 3 objectInit, Cond.instanceMethod yX5_init, Cond.code yX5_init cX5_init 1 none, Cond.methodLink RX5 3 objectInit, Cond.fieldLink RX5 9 "PanTales$Ways" "least" "[I", Cond.fieldLink RX5 15 "PanTales$Ways" "neighbours" "[I", Cond.instanceMethod yX4_init, Cond.code yX4_init cX4_init 1 none, Cond.methodLink RX4 3 objectInit, Cond.fieldLink RX4 9 "PanTales$Sayings" "faded" "[I", Cond.fieldLink RX4 15 "PanTales$Sayings" "twos" "[I", Cond.fieldLink RX4 18 "PanTales$Sayings" "left" "[I", Cond.instanceMethod yX0_init, Cond.code yX0_init cX0_init 1 none]
def wsL_law_r4 : List Cond := [Cond.methodLink RX0 3 objectInit, Cond.arrayClass .long, Cond.fieldLink RX0 9 "PanTales$Chances" "lastDoes" "[J", Cond.fieldLink RX0 15 "PanTales$Chances" "lastNot" "[J", Cond.fieldLink RX0 18 "PanTales$Chances" "takes" "[I", Cond.methodLink RL 20 yL_cell, Cond.static yL_cell, Cond.initialized RL, Cond.code yL_cell cL_cell 3 (some .int), Cond.constant RL 7 (4194303), Cond.methodLink RL 34 yX6_road, Cond.instanceMethod yX6_road, Cond.selects RX6 yX6_road yX6_road, Cond.code yX6_road cX6_road 5 (some .int), Cond.methodLink RX6 58 yX6_isPlace, Cond.static yX6_isPlace, Cond.code yX6_isPlace cX6_isPlace 1 (some .boolean), Cond.methodLink RX6 62 yX6_within, Cond.static yX6_within, Cond.code yX6_within cX6_within 3 (some .boolean), Cond.methodLink RX6 66 yX1_longBetween, Cond.instanceMethod yX1_longBetween, Cond.selects RX1 yX1_longBetween yX1_longBetween, Cond.code yX1_longBetween cX1_longBetween 3 (some .int)]
def wsL_law_r5 : List Cond := [Cond.methodLink RX6 70 yX1_layRoad, Cond.instanceMethod yX1_layRoad, Cond.selects RX1 yX1_layRoad yX1_layRoad, Cond.code yX1_layRoad cX1_layRoad 4 none, Cond.methodLink RL 24 yX6_house, Cond.instanceMethod yX6_house, Cond.selects RX6 yX6_house yX6_house, Cond.code yX6_house cX6_house 5 (some .int), Cond.methodLink RX6 74 yX6_isHouse, Cond.static yX6_isHouse, Cond.code yX6_isHouse cX6_isHouse 1 (some .boolean), Cond.methodLink RX6 77 yX1_doubtOf, Cond.instanceMethod yX1_doubtOf, Cond.selects RX1 yX1_doubtOf yX1_doubtOf, Cond.code yX1_doubtOf cX1_doubtOf 2 (some .int), Cond.methodLink RX6 81 yX1_furnish, Cond.instanceMethod yX1_furnish, Cond.selects RX1 yX1_furnish yX1_furnish, Cond.code yX1_furnish cX1_furnish 4 none, Cond.methodLink RL 48 yX6_say, Cond.instanceMethod yX6_say, Cond.selects RX6 yX6_say yX6_say, Cond.code yX6_say cX6_say 2 (some .int), Cond.methodLink RX6 100 yX3_add]
def wsL_law_r6 : List Cond := [Cond.instanceMethod yX3_add, Cond.selects RX3 yX3_add yX3_add, Cond.code yX3_add cX3_add 2 (some .boolean), Cond.fieldLink RX3 15 "PanTales$Pad" "count" "I", Cond.methodLink RX6 103 yX3_size, Cond.instanceMethod yX3_size, Cond.selects RX3 yX3_size yX3_size, Cond.code yX3_size cX3_size 1 (some .int), Cond.methodLink RL 51 yX6_pan, Cond.instanceMethod yX6_pan, Cond.selects RX6 yX6_pan yX6_pan, Cond.code yX6_pan cX6_pan 3 (some .int), Cond.methodLink RX6 113 yX2_pass, Cond.instanceMethod yX2_pass, Cond.selects RX2 yX2_pass yX2_pass, Cond.code yX2_pass cX2_pass 7 (some .int), Cond.fieldLink RX2 9 "PanTales$Night" "acts" "I", Cond.fieldLink RX2 15 "PanTales$Night" "beds" "I", Cond.fieldLink RX2 18 "PanTales$Night" "hinderedAct" "I", Cond.fieldLink RX2 21 "PanTales$Night" "reason" "I", Cond.fieldLink RX2 24 "PanTales$Night" "otherAct" "I", Cond.fieldLink RX2 27 "PanTales$Night" "otherHouse" "I", Cond.methodLink RX2 30 yX3_faultPlace, Cond.instanceMethod yX3_faultPlace]
def wsL_law_r7 : List Cond := [Cond.selects RX3 yX3_faultPlace yX3_faultPlace, Cond.code yX3_faultPlace cX3_faultPlace 3 (some .int), Cond.methodLink RX3 30 yX3_kindAt, Cond.instanceMethod yX3_kindAt, Cond.selects RX3 yX3_kindAt yX3_kindAt, Cond.code yX3_kindAt cX3_kindAt 2 (some .int), Cond.methodLink RX3 23 yX3_signAt, Cond.instanceMethod yX3_signAt, Cond.selects RX3 yX3_signAt yX3_signAt, Cond.code yX3_signAt cX3_signAt 2 (some .int), Cond.methodLink RX3 27 yX3_placeAt, Cond.instanceMethod yX3_placeAt, Cond.selects RX3 yX3_placeAt yX3_placeAt, Cond.code yX3_placeAt cX3_placeAt 3 (some .int), Cond.methodLink RX3 33 yX3_digitAt, Cond.instanceMethod yX3_digitAt, Cond.selects RX3 yX3_digitAt yX3_digitAt, Cond.code yX3_digitAt cX3_digitAt 2 (some .int), Cond.methodLink RX2 36 yX1_copyFrom, Cond.instanceMethod yX1_copyFrom, Cond.selects RX1 yX1_copyFrom yX1_copyFrom, Cond.code yX1_copyFrom cX1_copyFrom 2 none, Cond.methodLink RX1 43 arraycopyName, Cond.native arraycopyName]
def wsL_law_r8 : List Cond := [Cond.static arraycopyName, Cond.initialized "java/lang/System", Cond.fieldLink RX1 49 "PanTales$Close" "sights" "I", Cond.fieldLink RX1 52 "PanTales$Close" "heat" "I", Cond.fieldLink RX1 55 "PanTales$Close" "tale" "I", Cond.fieldLink RX1 58 "PanTales$Close" "mornings" "I", Cond.methodLink RX2 42 yX3_size, Cond.methodLink RX2 45 yX3_kindAt, Cond.methodLink RX2 49 yX3_whatAt, Cond.instanceMethod yX3_whatAt, Cond.selects RX3 yX3_whatAt yX3_whatAt, Cond.code yX3_whatAt cX3_whatAt 2 (some .int), Cond.methodLink RX2 52 yX1_reasonAgainst, Cond.instanceMethod yX1_reasonAgainst, Cond.selects RX1 yX1_reasonAgainst yX1_reasonAgainst, Cond.code yX1_reasonAgainst cX1_reasonAgainst 3 (some .int), Cond.methodLink RX1 107 yX1_longBetween, Cond.methodLink RX2 56 yX3_digitAt, Cond.methodLink RX2 59 yX2_actOn, Cond.instanceMethod yX2_actOn, Cond.selects RX2 yX2_actOn yX2_actOn, Cond.code yX2_actOn cX2_actOn 7 none, Cond.methodLink RX2 63 yX1_panFact, Cond.instanceMethod yX1_panFact]
def wsL_law_r9 : List Cond := [Cond.selects RX1 yX1_panFact yX1_panFact, Cond.code yX1_panFact cX1_panFact 2 (some .int), Cond.methodLink RX2 66 yX1_beliefOf, Cond.instanceMethod yX1_beliefOf, Cond.selects RX1 yX1_beliefOf yX1_beliefOf, Cond.code yX1_beliefOf cX1_beliefOf 2 (some .int), Cond.methodLink RX2 69 yX1_act, Cond.instanceMethod yX1_act, Cond.selects RX1 yX1_act yX1_act, Cond.code yX1_act cX1_act 4 none, Cond.methodLink RX1 110 Lib.Math.max.name, Cond.static Lib.Math.max.name, Cond.initialized "java/lang/Math", Cond.code Lib.Math.max.name Lib.Math.max.code 2 (some .int), Cond.methodLink RX1 119 Lib.Math.min.name, Cond.static Lib.Math.min.name, Cond.code Lib.Math.min.name Lib.Math.min.code 2 (some .int), Cond.methodLink RX1 115 yX1_warmBed, Cond.instanceMethod yX1_warmBed, Cond.selects RX1 yX1_warmBed yX1_warmBed, Cond.code yX1_warmBed cX1_warmBed 2 none, Cond.methodLink RX1 75 yX1_isDamp, Cond.instanceMethod yX1_isDamp, Cond.selects RX1 yX1_isDamp yX1_isDamp]
def wsL_law_r10 : List Cond := [Cond.code yX1_isDamp cX1_isDamp 2 (some .boolean), Cond.methodLink RX1 122 yX1_isConvinced, Cond.instanceMethod yX1_isConvinced, Cond.selects RX1 yX1_isConvinced yX1_isConvinced, Cond.code yX1_isConvinced cX1_isConvinced 3 (some .boolean), Cond.methodLink RX1 125 yX1_convince, Cond.instanceMethod yX1_convince, Cond.selects RX1 yX1_convince yX1_convince, Cond.code yX1_convince cX1_convince 3 none, Cond.methodLink RX1 72 yX1_doubtOf, Cond.methodLink RX1 129 yX1_furnish, Cond.methodLink RX1 89 yX1_fadesInto, Cond.instanceMethod yX1_fadesInto, Cond.selects RX1 yX1_fadesInto yX1_fadesInto, Cond.code yX1_fadesInto cX1_fadesInto 2 (some .int), Cond.static yX6_isTale, Cond.code yX6_isTale cX6_isTale 1 (some .boolean), Cond.methodLink RX6 130 yX1_panFact, Cond.methodLink RL 54 yX6_behind, Cond.instanceMethod yX6_behind, Cond.selects RX6 yX6_behind yX6_behind, Cond.code yX6_behind cX6_behind 4 (some .int), Cond.methodLink RX6 127 yX1_houseFact, Cond.instanceMethod yX1_houseFact]
def wsL_law_r11 : List Cond := [Cond.selects RX1 yX1_houseFact yX1_houseFact, Cond.code yX1_houseFact cX1_houseFact 3 (some .int), Cond.methodLink RX1 68 yX1_beliefOf, Cond.methodLink RL 57 yX6_holds, Cond.instanceMethod yX6_holds, Cond.selects RX6 yX6_holds yX6_holds, Cond.code yX6_holds cX6_holds 3 (some .int), Cond.methodLink RX6 84 yX6_isTale, Cond.methodLink RX6 133 yX1_believersOf, Cond.instanceMethod yX1_believersOf, Cond.selects RX1 yX1_believersOf yX1_believersOf, Cond.code yX1_believersOf cX1_believersOf 4 (some .int), Cond.methodLink RL 60 yX6_other, Cond.instanceMethod yX6_other, Cond.selects RX6 yX6_other yX6_other, Cond.code yX6_other cX6_other 3 (some .int), Cond.methodLink RL 63 yX6_judge, Cond.instanceMethod yX6_judge, Cond.selects RX6 yX6_judge yX6_judge, Cond.code yX6_judge cX6_judge 3 (some .int), Cond.methodLink RL 66 yL_bits, Cond.static yL_bits, Cond.code yL_bits cL_bits 3 (some .int), Cond.methodLink RL 69 yX6_round]
def wsL_law_r12 : List Cond := [Cond.instanceMethod yX6_round, Cond.selects RX6 yX6_round yX6_round, Cond.code yX6_round cX6_round 4 (some .int), Cond.methodLink RX6 159 yX5_bestRound, Cond.instanceMethod yX5_bestRound, Cond.selects RX5 yX5_bestRound yX5_bestRound, Cond.code yX5_bestRound cX5_bestRound 5 (some .int), Cond.fieldLink RX5 42 "PanTales$Ways" "heats" "[I", Cond.methodLink RX5 38 yX5_measure, Cond.instanceMethod yX5_measure, Cond.selects RX5 yX5_measure yX5_measure, Cond.code yX5_measure cX5_measure 5 none, Cond.methodLink RX5 18 yX1_longBetween, Cond.methodLink RX5 24 yX5_shortenPast, Cond.instanceMethod yX5_shortenPast, Cond.selects RX5 yX5_shortenPast yX5_shortenPast, Cond.code yX5_shortenPast cX5_shortenPast 5 none, Cond.methodLink RX5 28 yX5_leastWay, Cond.instanceMethod yX5_leastWay, Cond.selects RX5 yX5_leastWay yX5_leastWay, Cond.code yX5_leastWay cX5_leastWay 3 (some .int), Cond.methodLink RX5 45 yJ7_fill_53178, Cond.methodLink RX5 51 yX5_warm, Cond.instanceMethod yX5_warm]
def wsL_law_r13 : List Cond := [Cond.selects RX5 yX5_warm yX5_warm, Cond.code yX5_warm cX5_warm 6 none, Cond.methodLink RX5 85 Lib.Math.max.name, Cond.methodLink RX5 79 yX1_isDamp, Cond.methodLink RX5 82 yX1_isConvinced, Cond.methodLink RX5 65 yX5_heatLeft, Cond.instanceMethod yX5_heatLeft, Cond.selects RX5 yX5_heatLeft yX5_heatLeft, Cond.code yX5_heatLeft cX5_heatLeft 4 (some .int), Cond.methodLink RX5 55 yX5_goOn, Cond.instanceMethod yX5_goOn, Cond.selects RX5 yX5_goOn yX5_goOn, Cond.code yX5_goOn cX5_goOn 7 (some .boolean), Cond.static yX6_isIn, Cond.code yX6_isIn cX6_isIn 2 (some .boolean), Cond.methodLink RX5 59 yJ6_bitCount_0f7a4, Cond.static yJ6_bitCount_0f7a4, Cond.initialized RJ6, Cond.code yJ6_bitCount_0f7a4 cJ6_bitCount_0f7a4 1 (some .int), Cond.constant RJ6 265 (1431655765), Cond.constant RJ6 266 (858993459), Cond.constant RJ6 267 (252645135), Cond.methodLink RX6 163 yJ6_bitCount_0f7a4, Cond.methodLink RL 72 yX6_near]
def wsL_law_r14 : List Cond := [Cond.instanceMethod yX6_near, Cond.selects RX6 yX6_near yX6_near, Cond.code yX6_near cX6_near 4 (some .int), Cond.methodLink RX6 149 yX5_measure, Cond.methodLink RX6 152 yX5_howFar, Cond.instanceMethod yX5_howFar, Cond.selects RX5 yX5_howFar yX5_howFar, Cond.code yX5_howFar cX5_howFar 4 (some .int), Cond.methodLink RX6 155 yX5_nextPlace, Cond.instanceMethod yX5_nextPlace, Cond.selects RX5 yX5_nextPlace yX5_nextPlace, Cond.code yX5_nextPlace cX5_nextPlace 7 (some .int), Cond.methodLink RX5 35 yX5_howFar, Cond.methodLink RL 14 yX6_wipe, Cond.instanceMethod yX6_wipe, Cond.selects RX6 yX6_wipe yX6_wipe, Cond.code yX6_wipe cX6_wipe 2 (some .int), Cond.methodLink RX6 107 yX3_clear, Cond.instanceMethod yX3_clear, Cond.selects RX3 yX3_clear yX3_clear, Cond.code yX3_clear cX3_clear 1 none, Cond.methodLink RL 75 yX6_done, Cond.instanceMethod yX6_done, Cond.selects RX6 yX6_done yX6_done]
def wsL_law_r15 : List Cond := [Cond.code yX6_done cX6_done 2 (some .int), Cond.methodLink RX6 142 yX1_copyFrom, Cond.methodLink RL 37 yX6_told, Cond.instanceMethod yX6_told, Cond.selects RX6 yX6_told yX6_told, Cond.code yX6_told cX6_told 3 (some .int), Cond.methodLink RX6 184 yX1_sightCount, Cond.instanceMethod yX1_sightCount, Cond.selects RX1 yX1_sightCount yX1_sightCount, Cond.code yX1_sightCount cX1_sightCount 1 (some .int), Cond.methodLink RX6 94 yX1_fadesInto, Cond.methodLink RL 78 yX6_keep, Cond.instanceMethod yX6_keep, Cond.selects RX6 yX6_keep yX6_keep, Cond.code yX6_keep cX6_keep 4 (some .int), Cond.methodLink RX6 168 yX5_fewestDamp, Cond.instanceMethod yX5_fewestDamp, Cond.selects RX5 yX5_fewestDamp yX5_fewestDamp, Cond.code yX5_fewestDamp cX5_fewestDamp 6 (some .int), Cond.methodLink RX5 90 yX5_findNeighbours, Cond.instanceMethod yX5_findNeighbours, Cond.selects RX5 yX5_findNeighbours yX5_findNeighbours, Cond.code yX5_findNeighbours cX5_findNeighbours 5 none, Cond.methodLink RX5 93 yX5_leadsTo]
def wsL_law_r16 : List Cond := [Cond.instanceMethod yX5_leadsTo, Cond.selects RX5 yX5_leadsTo yX5_leadsTo, Cond.code yX5_leadsTo cX5_leadsTo 7 (some .boolean), Cond.methodLink RL 28 yX6_tell, Cond.instanceMethod yX6_tell, Cond.selects RX6 yX6_tell yX6_tell, Cond.code yX6_tell cX6_tell 4 (some .int), Cond.methodLink RX6 87 yX1_beliefOf, Cond.methodLink RX6 90 yX1_convince, Cond.methodLink RL 43 yL_has, Cond.static yL_has, Cond.code yL_has cL_has 2 (some .boolean), Cond.methodLink RL 31 yX6_fade, Cond.instanceMethod yX6_fade, Cond.selects RX6 yX6_fade yX6_fade, Cond.code yX6_fade cX6_fade 4 (some .int), Cond.methodLink RX6 97 yX1_letFade, Cond.instanceMethod yX1_letFade, Cond.selects RX1 yX1_letFade yX1_letFade, Cond.code yX1_letFade cX1_letFade 3 none, Cond.methodLink RL 81 yX6_faded, Cond.instanceMethod yX6_faded, Cond.selects RX6 yX6_faded yX6_faded, Cond.code yX6_faded cX6_faded 3 (some .int)]
def wsL_law_r17 : List Cond := [Cond.methodLink RX6 171 yX1_behindStirs, Cond.instanceMethod yX1_behindStirs, Cond.selects RX1 yX1_behindStirs yX1_behindStirs, Cond.code yX1_behindStirs cX1_behindStirs 5 (some .int), Cond.methodLink RX6 174 yX1_stirsToRing, Cond.instanceMethod yX1_stirsToRing, Cond.selects RX1 yX1_stirsToRing yX1_stirsToRing, Cond.code yX1_stirsToRing cX1_stirsToRing 5 (some .int), Cond.methodLink RX6 177 yX1_stirsOfRing, Cond.instanceMethod yX1_stirsOfRing, Cond.selects RX1 yX1_stirsOfRing yX1_stirsOfRing, Cond.code yX1_stirsOfRing cX1_stirsOfRing 5 (some .int), Cond.methodLink RX1 96 yX1_stirsToRing, Cond.methodLink RX1 99 yX1_behindStirs, Cond.methodLink RL 84 yX6_fits, Cond.instanceMethod yX6_fits, Cond.selects RX6 yX6_fits yX6_fits, Cond.code yX6_fits cX6_fits 2 (some .int), Cond.methodLink RX6 190 yX4_gather, Cond.instanceMethod yX4_gather, Cond.selects RX4 yX4_gather yX4_gather, Cond.code yX4_gather cX4_gather 4 none, Cond.fieldLink RX4 25 "PanTales$Sayings" "count" "I", Cond.methodLink RX4 21 yX4_fadeAll]
def wsL_law_r18 : List Cond := [Cond.instanceMethod yX4_fadeAll, Cond.selects RX4 yX4_fadeAll yX4_fadeAll, Cond.code yX4_fadeAll cX4_fadeAll 5 none, Cond.methodLink RX4 37 yX1_fadesInto, Cond.methodLink RX4 29 yX4_isSo, Cond.instanceMethod yX4_isSo, Cond.selects RX4 yX4_isSo yX4_isSo, Cond.code yX4_isSo cX4_isSo 5 (some .boolean), Cond.methodLink RX4 43 yX1_sightCount, Cond.methodLink RX4 47 yX1_sightBed, Cond.instanceMethod yX1_sightBed, Cond.selects RX1 yX1_sightBed yX1_sightBed, Cond.code yX1_sightBed cX1_sightBed 2 (some .int), Cond.methodLink RX4 50 yX4_taleInBed, Cond.instanceMethod yX4_taleInBed, Cond.selects RX4 yX4_taleInBed yX4_taleInBed, Cond.code yX4_taleInBed cX4_taleInBed 5 (some .int), Cond.methodLink RX4 54 yX1_sightTale, Cond.instanceMethod yX1_sightTale, Cond.selects RX1 yX1_sightTale yX1_sightTale, Cond.code yX1_sightTale cX1_sightTale 2 (some .int), Cond.methodLink RX6 193 yX4_size, Cond.instanceMethod yX4_size, Cond.selects RX4 yX4_size yX4_size]
def wsL_law_r19 : List Cond := [Cond.code yX4_size cX4_size 1 (some .int), Cond.methodLink RX6 194 yX4_pick, Cond.instanceMethod yX4_pick, Cond.selects RX4 yX4_pick yX4_pick, Cond.code yX4_pick cX4_pick 2 (some .int), Cond.methodLink RL 87 yX6_ask, Cond.instanceMethod yX6_ask, Cond.selects RX6 yX6_ask yX6_ask, Cond.code yX6_ask cX6_ask 3 (some .int), Cond.methodLink RX6 197 yX4_bedToAsk, Cond.instanceMethod yX4_bedToAsk, Cond.selects RX4 yX4_bedToAsk yX4_bedToAsk, Cond.code yX4_bedToAsk cX4_bedToAsk 5 (some .int), Cond.methodLink RX4 61 yX4_mostLeft, Cond.instanceMethod yX4_mostLeft, Cond.selects RX4 yX4_mostLeft yX4_mostLeft, Cond.code yX4_mostLeft cX4_mostLeft 6 (some .int), Cond.methodLink RX4 73 Lib.Math.max.name, Cond.methodLink RX4 64 yJ7_fill_53178, Cond.methodLink RX4 70 yX4_pick, Cond.methodLink RX6 200 yX4_mostLeft, Cond.methodLink RL 90 yX6_seen, Cond.instanceMethod yX6_seen, Cond.selects RX6 yX6_seen yX6_seen]
def wsL_law_r20 : List Cond := [Cond.code yX6_seen cX6_seen 3 (some .int), Cond.methodLink RX6 180 yX1_addSight, Cond.instanceMethod yX1_addSight, Cond.selects RX1 yX1_addSight yX1_addSight, Cond.code yX1_addSight cX1_addSight 3 (some .boolean), Cond.methodLink RL 93 yX6_forget, Cond.instanceMethod yX6_forget, Cond.selects RX6 yX6_forget yX6_forget, Cond.code yX6_forget cX6_forget 2 (some .int), Cond.methodLink RX6 187 yX1_dropSights, Cond.instanceMethod yX1_dropSights, Cond.selects RX1 yX1_dropSights yX1_dropSights, Cond.code yX1_dropSights cX1_dropSights 1 none, Cond.methodLink RL 96 yX6_embers, Cond.instanceMethod yX6_embers, Cond.selects RX6 yX6_embers yX6_embers, Cond.code yX6_embers cX6_embers 4 (some .int), Cond.methodLink RX6 217 yX0_firstTake, Cond.instanceMethod yX0_firstTake, Cond.selects RX0 yX0_firstTake yX0_firstTake, Cond.code yX0_firstTake cX0_firstTake 3 (some .int), Cond.methodLink RX0 38 yX0_leastTake, Cond.instanceMethod yX0_leastTake, Cond.selects RX0 yX0_leastTake yX0_leastTake]
def wsL_law_r21 : List Cond := [Cond.code yX0_leastTake cX0_leastTake 4 (some .int)]
def wsL_law : List Cond := (wsL_law_r1 ++ (wsL_law_r2 ++ (wsL_law_r3 ++ (wsL_law_r4 ++ (wsL_law_r5 ++ (wsL_law_r6 ++ (wsL_law_r7 ++ (wsL_law_r8 ++ (wsL_law_r9 ++ (wsL_law_r10 ++ (wsL_law_r11 ++ (wsL_law_r12 ++ (wsL_law_r13 ++ (wsL_law_r14 ++ (wsL_law_r15 ++ (wsL_law_r16 ++ (wsL_law_r17 ++ (wsL_law_r18 ++ (wsL_law_r19 ++ (wsL_law_r20 ++ wsL_law_r21)))))))))))))))))))) ++ wsX60 ++ wsX10 ++ wsX30 ++ wsX20 ++ wsX50 ++ wsX40 ++ wsX00 ++ ([] : List Cond)
end
section
theorem memIn_r {big ws : List Cond} (ps : List Nat) (hp : ws = ps.filterMap (fun i => big[i]?)) : ∀ w ∈ ws, w ∈ big := by
  intro w hw
  rw [hp] at hw
  obtain ⟨i, -, hi⟩ := List.mem_filterMap.mp hw
  exact List.mem_of_getElem? hi
theorem memIn_app {big a b : List Cond} (ha : ∀ w ∈ a, w ∈ big) (hb : ∀ w ∈ b, w ∈ big) : ∀ w ∈ a ++ b, w ∈ big := fun w h => (List.mem_append.mp h).elim (ha w) (hb w)
set_option maxRecDepth 20000 in
theorem in_wsL_law_r1 : ∀ w ∈ wsL_law_r1, w ∈ lw_tbl := memIn_r [25, 26, 14, 79, 27, 28, 29, 30, 31, 32, 33, 34, 15, 177, 178, 179, 81, 82, 17, 180, 94, 95, 18, 181] (by decide +kernel)
set_option maxRecDepth 20000 in
theorem in_wsL_law_r2 : ∀ w ∈ wsL_law_r2, w ∈ lw_tbl := memIn_r [125, 126, 19, 182, 141, 142, 20, 183, 160, 161, 21, 184, 35, 36, 37, 38, 42, 43, 44, 45, 46, 47, 48, 50] (by decide +kernel)
set_option maxRecDepth 20000 in
theorem in_wsL_law_r3 : ∀ w ∈ wsL_law_r3, w ∈ lw_tbl := memIn_r [39, 40, 16, 41, 84, 85, 86, 87, 97, 98, 99, 128, 129, 130, 131, 132, 144, 145, 146, 147, 148, 149, 163, 164] (by decide +kernel)
set_option maxRecDepth 20000 in
theorem in_wsL_law_r4 : ∀ w ∈ wsL_law_r4, w ∈ lw_tbl := memIn_r [165, 176, 166, 167, 168, 592, 593, 13, 594, 595, 202, 203, 204, 205, 206, 207, 208, 209, 210, 211, 212, 213, 214, 215] (by decide +kernel)
set_option maxRecDepth 20000 in
theorem in_wsL_law_r5 : ∀ w ∈ wsL_law_r5, w ∈ lw_tbl := memIn_r [217, 218, 219, 220, 221, 222, 223, 224, 225, 226, 227, 228, 229, 230, 231, 233, 234, 235, 236, 265, 266, 267, 268, 269] (by decide +kernel)
set_option maxRecDepth 20000 in
theorem in_wsL_law_r6 : ∀ w ∈ wsL_law_r6, w ∈ lw_tbl := memIn_r [270, 271, 272, 88, 274, 275, 276, 277, 377, 378, 379, 380, 290, 291, 292, 293, 100, 102, 104, 106, 108, 110, 294, 295] (by decide +kernel)
set_option maxRecDepth 20000 in
theorem in_wsL_law_r7 : ∀ w ∈ wsL_law_r7, w ∈ lw_tbl := memIn_r [296, 297, 298, 299, 300, 301, 302, 303, 304, 305, 306, 307, 308, 309, 310, 311, 312, 313, 314, 315, 316, 317, 318, 320] (by decide +kernel)
set_option maxRecDepth 20000 in
theorem in_wsL_law_r8 : ∀ w ∈ wsL_law_r8, w ∈ lw_tbl := memIn_r [319, 22, 49, 51, 52, 53, 321, 322, 323, 324, 325, 326, 327, 328, 329, 330, 331, 332, 333, 335, 0, 336, 337, 338] (by decide +kernel)
set_option maxRecDepth 20000 in
theorem in_wsL_law_r9 : ∀ w ∈ wsL_law_r9, w ∈ lw_tbl := memIn_r [339, 340, 341, 245, 246, 247, 342, 343, 344, 345, 346, 347, 23, 348, 363, 364, 365, 349, 351, 1, 352, 353, 354, 355] (by decide +kernel)
set_option maxRecDepth 20000 in
theorem in_wsL_law_r10 : ∀ w ∈ wsL_law_r10, w ∈ lw_tbl := memIn_r [356, 357, 358, 359, 360, 361, 249, 250, 251, 362, 366, 367, 257, 258, 259, 242, 243, 381, 368, 369, 370, 371, 372, 373] (by decide +kernel)
set_option maxRecDepth 20000 in
theorem in_wsL_law_r11 : ∀ w ∈ wsL_law_r11, w ∈ lw_tbl := memIn_r [374, 375, 376, 382, 383, 384, 385, 241, 386, 387, 388, 389, 390, 391, 392, 393, 286, 287, 288, 289, 599, 600, 601, 426] (by decide +kernel)
set_option maxRecDepth 20000 in
theorem in_wsL_law_r12 : ∀ w ∈ wsL_law_r12, w ∈ lw_tbl := memIn_r [427, 428, 429, 430, 431, 432, 433, 133, 434, 404, 405, 406, 407, 408, 410, 2, 411, 412, 414, 3, 415, 435, 436, 438] (by decide +kernel)
set_option maxRecDepth 20000 in
theorem in_wsL_law_r13 : ∀ w ∈ wsL_law_r13, w ∈ lw_tbl := memIn_r [4, 439, 442, 440, 441, 443, 445, 5, 446, 449, 451, 6, 452, 454, 455, 456, 457, 24, 458, 459, 460, 461, 462, 399] (by decide +kernel)
set_option maxRecDepth 20000 in
theorem in_wsL_law_r14 : ∀ w ∈ wsL_law_r14, w ∈ lw_tbl := memIn_r [400, 401, 402, 403, 417, 418, 419, 420, 421, 422, 423, 424, 425, 278, 279, 280, 281, 282, 283, 284, 285, 394, 395, 396] (by decide +kernel)
set_option maxRecDepth 20000 in
theorem in_wsL_law_r15 : ∀ w ∈ wsL_law_r15, w ∈ lw_tbl := memIn_r [397, 398, 588, 589, 590, 591, 507, 508, 509, 510, 256, 463, 464, 465, 466, 467, 468, 469, 470, 471, 473, 7, 474, 475] (by decide +kernel)
set_option maxRecDepth 20000 in
theorem in_wsL_law_r16 : ∀ w ∈ wsL_law_r16, w ∈ lw_tbl := memIn_r [477, 8, 478, 237, 238, 239, 240, 244, 248, 596, 597, 598, 252, 253, 254, 255, 261, 262, 263, 264, 479, 480, 481, 482] (by decide +kernel)
set_option maxRecDepth 20000 in
theorem in_wsL_law_r17 : ∀ w ∈ wsL_law_r17, w ∈ lw_tbl := memIn_r [483, 484, 485, 486, 487, 488, 489, 490, 492, 493, 494, 495, 496, 497, 519, 520, 521, 522, 523, 524, 525, 526, 150, 527] (by decide +kernel)
set_option maxRecDepth 20000 in
theorem in_wsL_law_r18 : ∀ w ∈ wsL_law_r18, w ∈ lw_tbl := memIn_r [529, 9, 530, 531, 532, 534, 10, 535, 536, 537, 538, 539, 540, 541, 543, 11, 544, 547, 548, 549, 550, 551, 552, 553] (by decide +kernel)
set_option maxRecDepth 20000 in
theorem in_wsL_law_r19 : ∀ w ∈ wsL_law_r19, w ∈ lw_tbl := memIn_r [554, 555, 556, 557, 558, 559, 560, 561, 562, 563, 564, 565, 566, 567, 568, 569, 570, 573, 571, 572, 574, 498, 499, 500] (by decide +kernel)
set_option maxRecDepth 20000 in
theorem in_wsL_law_r20 : ∀ w ∈ wsL_law_r20, w ∈ lw_tbl := memIn_r [501, 502, 503, 504, 505, 511, 512, 513, 514, 515, 516, 517, 518, 575, 576, 577, 578, 579, 580, 581, 582, 584, 586, 12] (by decide +kernel)
set_option maxRecDepth 20000 in
theorem in_wsL_law_r21 : ∀ w ∈ wsL_law_r21, w ∈ lw_tbl := memIn_r [587] (by decide +kernel)
set_option maxRecDepth 20000 in
theorem in_wsX00 : ∀ w ∈ wsX00, w ∈ lw_tbl := memIn_r [169, 171, 173] (by decide +kernel)
set_option maxRecDepth 20000 in
theorem in_wsX10 : ∀ w ∈ wsX10, w ∈ lw_tbl := memIn_r [54, 56, 58, 60, 62, 64, 66, 68, 70, 72, 74, 76] (by decide +kernel)
set_option maxRecDepth 20000 in
theorem in_wsX20 : ∀ w ∈ wsX20, w ∈ lw_tbl := memIn_r [112, 114, 116, 118, 120, 122] (by decide +kernel)
set_option maxRecDepth 20000 in
theorem in_wsX30 : ∀ w ∈ wsX30, w ∈ lw_tbl := memIn_r [89, 91] (by decide +kernel)
set_option maxRecDepth 20000 in
theorem in_wsX40 : ∀ w ∈ wsX40, w ∈ lw_tbl := memIn_r [151, 153, 155, 157] (by decide +kernel)
set_option maxRecDepth 20000 in
theorem in_wsX50 : ∀ w ∈ wsX50, w ∈ lw_tbl := memIn_r [134, 136, 138] (by decide +kernel)
set_option maxRecDepth 20000 in
theorem in_wsX60 : ∀ w ∈ wsX60, w ∈ lw_tbl := memIn_r [185, 187, 189, 191, 193, 195, 197, 199] (by decide +kernel)
theorem wsL_law_in : ∀ w ∈ wsL_law, w ∈ lw_tbl := (memIn_app (memIn_app (memIn_app (memIn_app (memIn_app (memIn_app (memIn_app (memIn_app (memIn_app in_wsL_law_r1 (memIn_app in_wsL_law_r2 (memIn_app in_wsL_law_r3 (memIn_app in_wsL_law_r4 (memIn_app in_wsL_law_r5 (memIn_app in_wsL_law_r6 (memIn_app in_wsL_law_r7 (memIn_app in_wsL_law_r8 (memIn_app in_wsL_law_r9 (memIn_app in_wsL_law_r10 (memIn_app in_wsL_law_r11 (memIn_app in_wsL_law_r12 (memIn_app in_wsL_law_r13 (memIn_app in_wsL_law_r14 (memIn_app in_wsL_law_r15 (memIn_app in_wsL_law_r16 (memIn_app in_wsL_law_r17 (memIn_app in_wsL_law_r18 (memIn_app in_wsL_law_r19 (memIn_app in_wsL_law_r20 in_wsL_law_r21)))))))))))))))))))) in_wsX60) in_wsX10) in_wsX30) in_wsX20) in_wsX50) in_wsX40) in_wsX00) (fun _ h => absurd h List.not_mem_nil))
theorem inlX0 : ∀ w ∈ wsX00, w ∈ wsL_law := fun _ h => List.mem_append_left _ (List.mem_append_right _ h)
theorem inX0 : ∀ w ∈ wsX00, w ∈ lw_tbl := fun w h => wsL_law_in w (inlX0 w h)
theorem inlX1 : ∀ w ∈ wsX10, w ∈ wsL_law := fun _ h => List.mem_append_left _ (List.mem_append_left _ (List.mem_append_left _ (List.mem_append_left _ (List.mem_append_left _ (List.mem_append_left _ (List.mem_append_right _ h))))))
theorem inX1 : ∀ w ∈ wsX10, w ∈ lw_tbl := fun w h => wsL_law_in w (inlX1 w h)
theorem inlX2 : ∀ w ∈ wsX20, w ∈ wsL_law := fun _ h => List.mem_append_left _ (List.mem_append_left _ (List.mem_append_left _ (List.mem_append_left _ (List.mem_append_right _ h))))
theorem inX2 : ∀ w ∈ wsX20, w ∈ lw_tbl := fun w h => wsL_law_in w (inlX2 w h)
theorem inlX3 : ∀ w ∈ wsX30, w ∈ wsL_law := fun _ h => List.mem_append_left _ (List.mem_append_left _ (List.mem_append_left _ (List.mem_append_left _ (List.mem_append_left _ (List.mem_append_right _ h)))))
theorem inX3 : ∀ w ∈ wsX30, w ∈ lw_tbl := fun w h => wsL_law_in w (inlX3 w h)
theorem inlX4 : ∀ w ∈ wsX40, w ∈ wsL_law := fun _ h => List.mem_append_left _ (List.mem_append_left _ (List.mem_append_right _ h))
theorem inX4 : ∀ w ∈ wsX40, w ∈ lw_tbl := fun w h => wsL_law_in w (inlX4 w h)
theorem inlX5 : ∀ w ∈ wsX50, w ∈ wsL_law := fun _ h => List.mem_append_left _ (List.mem_append_left _ (List.mem_append_left _ (List.mem_append_right _ h)))
theorem inX5 : ∀ w ∈ wsX50, w ∈ lw_tbl := fun w h => wsL_law_in w (inlX5 w h)
theorem inlX6 : ∀ w ∈ wsX60, w ∈ wsL_law := fun _ h => List.mem_append_left _ (List.mem_append_left _ (List.mem_append_left _ (List.mem_append_left _ (List.mem_append_left _ (List.mem_append_left _ (List.mem_append_left _ (List.mem_append_right _ h)))))))
theorem inX6 : ∀ w ∈ wsX60, w ∈ lw_tbl := fun w h => wsL_law_in w (inlX6 w h)
theorem inX7 : ∀ w ∈ wsX70, w ∈ lw_tbl := by decide +kernel
theorem inJ6 : ∀ w ∈ wsJ60, w ∈ lw_tbl := by decide +kernel
theorem inJ9 : ∀ w ∈ wsJ90, w ∈ lw_tbl := by decide +kernel
theorem inJ10 : ∀ w ∈ wsJ100, w ∈ lw_tbl := by decide +kernel
theorem inJ7 : ∀ w ∈ wsJ70, w ∈ lw_tbl := by decide +kernel
abbrev vwCl : List vw_C := [(RX0, TX0, 3), (RX1, TX1, 12), (RX2, TX2, 6), (RX3, TX3, 2), (RX4, TX4, 4), (RX5, TX5, 3), (RX6, TX6, 8)]
end
section
theorem dX0_init_0 : decode cX0_init 0 = .ok (.aload_n 0, 1) := by decide +kernel
theorem dX0_init_1 : decode cX0_init 1 = .ok (.invokespecial 3, 3) := by decide +kernel
theorem dX0_init_4 : decode cX0_init 4 = .ok (.aload_n 0, 1) := by decide +kernel
theorem dX0_init_5 : decode cX0_init 5 = .ok (.bipush 11, 2) := by decide +kernel
theorem dX0_init_7 : decode cX0_init 7 = .ok (.newarray .long, 2) := by decide +kernel
theorem dX0_init_9 : decode cX0_init 9 = .ok (.putfield 9, 3) := by decide +kernel
theorem dX0_init_12 : decode cX0_init 12 = .ok (.aload_n 0, 1) := by decide +kernel
theorem dX0_init_13 : decode cX0_init 13 = .ok (.bipush 11, 2) := by decide +kernel
theorem dX0_init_15 : decode cX0_init 15 = .ok (.newarray .long, 2) := by decide +kernel
theorem dX0_init_17 : decode cX0_init 17 = .ok (.putfield 15, 3) := by decide +kernel
theorem dX0_init_20 : decode cX0_init 20 = .ok (.aload_n 0, 1) := by decide +kernel
theorem dX0_init_21 : decode cX0_init 21 = .ok (.bipush 61, 2) := by decide +kernel
theorem dX0_init_23 : decode cX0_init 23 = .ok (.newarray .int, 2) := by decide +kernel
theorem dX0_init_25 : decode cX0_init 25 = .ok (.putfield 18, 3) := by decide +kernel
theorem dX0_init_28 : decode cX0_init 28 = .ok (.return_, 1) := by decide +kernel
set_option maxRecDepth 20000 in
theorem ggX0_firstTake_X6_within : GoodIn wsX0_firstTake wsX6_within := goodIn_r _ [4] (by decide +kernel) (by decide +kernel)
set_option maxRecDepth 20000 in
theorem gX0_firstTake_X6_within_n34 : GoodIn wsX0_firstTake (wsX6_within) := ggX0_firstTake_X6_within
set_option maxRecDepth 20000 in
theorem ggX0_firstTake_X0_leastTake : GoodIn wsX0_firstTake wsX0_leastTake := goodIn_r _ [9, 1, 2, 3, 4, 10, 11, 12] (by decide +kernel) (by decide +kernel)
set_option maxRecDepth 20000 in
theorem gX0_firstTake_X0_leastTake : GoodIn wsX0_firstTake (wsV RX0 38 RX0 yX0_leastTake wsX0_leastTake) := goodIn_app (goodIn_of _ (by decide +kernel)) ggX0_firstTake_X0_leastTake
theorem dX0_firstTake_0 : decode cX0_firstTake 0 = .ok (.iload_n 1, 1) := by decide +kernel
theorem dX0_firstTake_1 : decode cX0_firstTake 1 = .ok (.iconst 1, 1) := by decide +kernel
theorem dX0_firstTake_2 : decode cX0_firstTake 2 = .ok (.bipush 60, 2) := by decide +kernel
theorem dX0_firstTake_4 : decode cX0_firstTake 4 = .ok (.invokestatic 34, 3) := by decide +kernel
theorem dX0_firstTake_7 : decode cX0_firstTake 7 = .ok (.ifCond .ne 6, 3) := by decide +kernel
theorem dX0_firstTake_10 : decode cX0_firstTake 10 = .ok (.bipush (-6), 2) := by decide +kernel
theorem dX0_firstTake_12 : decode cX0_firstTake 12 = .ok (.ireturn, 1) := by decide +kernel
theorem dX0_firstTake_13 : decode cX0_firstTake 13 = .ok (.iconst 1, 1) := by decide +kernel
theorem dX0_firstTake_14 : decode cX0_firstTake 14 = .ok (.istore_n 2, 1) := by decide +kernel
theorem dX0_firstTake_15 : decode cX0_firstTake 15 = .ok (.iload_n 2, 1) := by decide +kernel
theorem dX0_firstTake_16 : decode cX0_firstTake 16 = .ok (.iload_n 1, 1) := by decide +kernel
theorem dX0_firstTake_17 : decode cX0_firstTake 17 = .ok (.if_icmp .gt 20, 3) := by decide +kernel
theorem dX0_firstTake_20 : decode cX0_firstTake 20 = .ok (.aload_n 0, 1) := by decide +kernel
theorem dX0_firstTake_21 : decode cX0_firstTake 21 = .ok (.getfield 18, 3) := by decide +kernel
theorem dX0_firstTake_24 : decode cX0_firstTake 24 = .ok (.iload_n 2, 1) := by decide +kernel
theorem dX0_firstTake_25 : decode cX0_firstTake 25 = .ok (.aload_n 0, 1) := by decide +kernel
theorem dX0_firstTake_26 : decode cX0_firstTake 26 = .ok (.iload_n 2, 1) := by decide +kernel
theorem dX0_firstTake_27 : decode cX0_firstTake 27 = .ok (.invokevirtual 38, 3) := by decide +kernel
theorem dX0_firstTake_30 : decode cX0_firstTake 30 = .ok (.iastore, 1) := by decide +kernel
theorem dX0_firstTake_31 : decode cX0_firstTake 31 = .ok (.iinc 2 1, 3) := by decide +kernel
theorem dX0_firstTake_34 : decode cX0_firstTake 34 = .ok (.goto (-19), 3) := by decide +kernel
theorem dX0_firstTake_37 : decode cX0_firstTake 37 = .ok (.aload_n 0, 1) := by decide +kernel
theorem dX0_firstTake_38 : decode cX0_firstTake 38 = .ok (.getfield 18, 3) := by decide +kernel
theorem dX0_firstTake_41 : decode cX0_firstTake 41 = .ok (.iload_n 1, 1) := by decide +kernel
theorem dX0_firstTake_42 : decode cX0_firstTake 42 = .ok (.iaload, 1) := by decide +kernel
theorem dX0_firstTake_43 : decode cX0_firstTake 43 = .ok (.iload_n 1, 1) := by decide +kernel
theorem dX0_firstTake_44 : decode cX0_firstTake 44 = .ok (.if_icmp .ge 12, 3) := by decide +kernel
theorem dX0_firstTake_47 : decode cX0_firstTake 47 = .ok (.aload_n 0, 1) := by decide +kernel
theorem dX0_firstTake_48 : decode cX0_firstTake 48 = .ok (.getfield 18, 3) := by decide +kernel
theorem dX0_firstTake_51 : decode cX0_firstTake 51 = .ok (.iload_n 1, 1) := by decide +kernel
theorem dX0_firstTake_52 : decode cX0_firstTake 52 = .ok (.iaload, 1) := by decide +kernel
theorem dX0_firstTake_53 : decode cX0_firstTake 53 = .ok (.goto 5, 3) := by decide +kernel
theorem dX0_firstTake_56 : decode cX0_firstTake 56 = .ok (.bipush (-6), 2) := by decide +kernel
theorem dX0_firstTake_58 : decode cX0_firstTake 58 = .ok (.ireturn, 1) := by decide +kernel
set_option maxRecDepth 20000 in
theorem ggX0_leastTake_X6_within : GoodIn wsX0_leastTake wsX6_within := goodIn_r _ [4] (by decide +kernel) (by decide +kernel)
set_option maxRecDepth 20000 in
theorem gX0_leastTake_X6_within_n34 : GoodIn wsX0_leastTake (wsX6_within) := ggX0_leastTake_X6_within
theorem dX0_leastTake_0 : decode cX0_leastTake 0 = .ok (.iconst 1, 1) := by decide +kernel
theorem dX0_leastTake_1 : decode cX0_leastTake 1 = .ok (.istore_n 2, 1) := by decide +kernel
theorem dX0_leastTake_2 : decode cX0_leastTake 2 = .ok (.iload_n 2, 1) := by decide +kernel
theorem dX0_leastTake_3 : decode cX0_leastTake 3 = .ok (.iload_n 1, 1) := by decide +kernel
theorem dX0_leastTake_4 : decode cX0_leastTake 4 = .ok (.if_icmp .ge 37, 3) := by decide +kernel
theorem dX0_leastTake_7 : decode cX0_leastTake 7 = .ok (.iload_n 1, 1) := by decide +kernel
theorem dX0_leastTake_8 : decode cX0_leastTake 8 = .ok (.iload_n 2, 1) := by decide +kernel
theorem dX0_leastTake_9 : decode cX0_leastTake 9 = .ok (.isub, 1) := by decide +kernel
theorem dX0_leastTake_10 : decode cX0_leastTake 10 = .ok (.istore_n 3, 1) := by decide +kernel
theorem dX0_leastTake_11 : decode cX0_leastTake 11 = .ok (.iload_n 3, 1) := by decide +kernel
theorem dX0_leastTake_12 : decode cX0_leastTake 12 = .ok (.iconst 1, 1) := by decide +kernel
theorem dX0_leastTake_13 : decode cX0_leastTake 13 = .ok (.bipush 60, 2) := by decide +kernel
theorem dX0_leastTake_15 : decode cX0_leastTake 15 = .ok (.invokestatic 34, 3) := by decide +kernel
theorem dX0_leastTake_18 : decode cX0_leastTake 18 = .ok (.ifCond .eq 17, 3) := by decide +kernel
theorem dX0_leastTake_21 : decode cX0_leastTake 21 = .ok (.aload_n 0, 1) := by decide +kernel
theorem dX0_leastTake_22 : decode cX0_leastTake 22 = .ok (.getfield 18, 3) := by decide +kernel
theorem dX0_leastTake_25 : decode cX0_leastTake 25 = .ok (.iload_n 3, 1) := by decide +kernel
theorem dX0_leastTake_26 : decode cX0_leastTake 26 = .ok (.iaload, 1) := by decide +kernel
theorem dX0_leastTake_27 : decode cX0_leastTake 27 = .ok (.iconst 2, 1) := by decide +kernel
theorem dX0_leastTake_28 : decode cX0_leastTake 28 = .ok (.iload_n 2, 1) := by decide +kernel
theorem dX0_leastTake_29 : decode cX0_leastTake 29 = .ok (.imul, 1) := by decide +kernel
theorem dX0_leastTake_30 : decode cX0_leastTake 30 = .ok (.if_icmp .le 5, 3) := by decide +kernel
theorem dX0_leastTake_33 : decode cX0_leastTake 33 = .ok (.iload_n 2, 1) := by decide +kernel
theorem dX0_leastTake_34 : decode cX0_leastTake 34 = .ok (.ireturn, 1) := by decide +kernel
theorem dX0_leastTake_35 : decode cX0_leastTake 35 = .ok (.iinc 2 1, 3) := by decide +kernel
theorem dX0_leastTake_38 : decode cX0_leastTake 38 = .ok (.goto (-36), 3) := by decide +kernel
theorem dX0_leastTake_41 : decode cX0_leastTake 41 = .ok (.iload_n 1, 1) := by decide +kernel
theorem dX0_leastTake_42 : decode cX0_leastTake 42 = .ok (.ireturn, 1) := by decide +kernel
set_option maxRecDepth 20000 in
theorem ggX1_init_J7_fill_53178 : GoodIn wsX1_init wsJ7_fill_53178 := goodIn_r _ [16] (by decide +kernel) (by decide +kernel)
set_option maxRecDepth 20000 in
theorem gX1_init_J7_fill_53178 : GoodIn wsX1_init (va_wsS RX1 37 yJ7_fill_53178 wsJ7_fill_53178) := goodIn_app (goodIn_of _ (by decide +kernel)) ggX1_init_J7_fill_53178
theorem dX1_init_0 : decode cX1_init 0 = .ok (.aload_n 0, 1) := by decide +kernel
theorem dX1_init_1 : decode cX1_init 1 = .ok (.invokespecial 3, 3) := by decide +kernel
theorem dX1_init_4 : decode cX1_init 4 = .ok (.aload_n 0, 1) := by decide +kernel
theorem dX1_init_5 : decode cX1_init 5 = .ok (.bipush 121, 2) := by decide +kernel
theorem dX1_init_7 : decode cX1_init 7 = .ok (.newarray .int, 2) := by decide +kernel
theorem dX1_init_9 : decode cX1_init 9 = .ok (.putfield 9, 3) := by decide +kernel
theorem dX1_init_12 : decode cX1_init 12 = .ok (.aload_n 0, 1) := by decide +kernel
theorem dX1_init_13 : decode cX1_init 13 = .ok (.bipush 10, 2) := by decide +kernel
theorem dX1_init_15 : decode cX1_init 15 = .ok (.newarray .int, 2) := by decide +kernel
theorem dX1_init_17 : decode cX1_init 17 = .ok (.putfield 15, 3) := by decide +kernel
theorem dX1_init_20 : decode cX1_init 20 = .ok (.aload_n 0, 1) := by decide +kernel
theorem dX1_init_21 : decode cX1_init 21 = .ok (.bipush 10, 2) := by decide +kernel
theorem dX1_init_23 : decode cX1_init 23 = .ok (.newarray .int, 2) := by decide +kernel
theorem dX1_init_25 : decode cX1_init 25 = .ok (.putfield 18, 3) := by decide +kernel
theorem dX1_init_28 : decode cX1_init 28 = .ok (.aload_n 0, 1) := by decide +kernel
theorem dX1_init_29 : decode cX1_init 29 = .ok (.bipush 10, 2) := by decide +kernel
theorem dX1_init_31 : decode cX1_init 31 = .ok (.newarray .int, 2) := by decide +kernel
theorem dX1_init_33 : decode cX1_init 33 = .ok (.putfield 21, 3) := by decide +kernel
theorem dX1_init_36 : decode cX1_init 36 = .ok (.aload_n 0, 1) := by decide +kernel
theorem dX1_init_37 : decode cX1_init 37 = .ok (.bipush 10, 2) := by decide +kernel
theorem dX1_init_39 : decode cX1_init 39 = .ok (.newarray .int, 2) := by decide +kernel
theorem dX1_init_41 : decode cX1_init 41 = .ok (.putfield 24, 3) := by decide +kernel
theorem dX1_init_44 : decode cX1_init 44 = .ok (.aload_n 0, 1) := by decide +kernel
theorem dX1_init_45 : decode cX1_init 45 = .ok (.bipush 8, 2) := by decide +kernel
theorem dX1_init_47 : decode cX1_init 47 = .ok (.newarray .int, 2) := by decide +kernel
theorem dX1_init_49 : decode cX1_init 49 = .ok (.putfield 27, 3) := by decide +kernel
theorem dX1_init_52 : decode cX1_init 52 = .ok (.aload_n 0, 1) := by decide +kernel
theorem dX1_init_53 : decode cX1_init 53 = .ok (.bipush 8, 2) := by decide +kernel
theorem dX1_init_55 : decode cX1_init 55 = .ok (.newarray .int, 2) := by decide +kernel
theorem dX1_init_57 : decode cX1_init 57 = .ok (.putfield 30, 3) := by decide +kernel
theorem dX1_init_60 : decode cX1_init 60 = .ok (.aload_n 0, 1) := by decide +kernel
theorem dX1_init_61 : decode cX1_init 61 = .ok (.bipush 10, 2) := by decide +kernel
theorem dX1_init_63 : decode cX1_init 63 = .ok (.putfield 33, 3) := by decide +kernel
theorem dX1_init_66 : decode cX1_init 66 = .ok (.aload_n 0, 1) := by decide +kernel
theorem dX1_init_67 : decode cX1_init 67 = .ok (.getfield 15, 3) := by decide +kernel
theorem dX1_init_70 : decode cX1_init 70 = .ok (.iconst 5, 1) := by decide +kernel
theorem dX1_init_71 : decode cX1_init 71 = .ok (.invokestatic 37, 3) := by decide +kernel
theorem dX1_init_74 : decode cX1_init 74 = .ok (.aload_n 0, 1) := by decide +kernel
theorem dX1_init_75 : decode cX1_init 75 = .ok (.getfield 21, 3) := by decide +kernel
theorem dX1_init_78 : decode cX1_init 78 = .ok (.bipush (-6), 2) := by decide +kernel
theorem dX1_init_80 : decode cX1_init 80 = .ok (.invokestatic 37, 3) := by decide +kernel
theorem dX1_init_83 : decode cX1_init 83 = .ok (.iconst 0, 1) := by decide +kernel
theorem dX1_init_84 : decode cX1_init 84 = .ok (.istore_n 1, 1) := by decide +kernel
theorem dX1_init_85 : decode cX1_init 85 = .ok (.iload_n 1, 1) := by decide +kernel
theorem dX1_init_86 : decode cX1_init 86 = .ok (.bipush 10, 2) := by decide +kernel
theorem dX1_init_88 : decode cX1_init 88 = .ok (.if_icmp .ge 16, 3) := by decide +kernel
theorem dX1_init_91 : decode cX1_init 91 = .ok (.aload_n 0, 1) := by decide +kernel
theorem dX1_init_92 : decode cX1_init 92 = .ok (.getfield 24, 3) := by decide +kernel
theorem dX1_init_95 : decode cX1_init 95 = .ok (.iload_n 1, 1) := by decide +kernel
theorem dX1_init_96 : decode cX1_init 96 = .ok (.iload_n 1, 1) := by decide +kernel
theorem dX1_init_97 : decode cX1_init 97 = .ok (.iastore, 1) := by decide +kernel
theorem dX1_init_98 : decode cX1_init 98 = .ok (.iinc 1 1, 3) := by decide +kernel
theorem dX1_init_101 : decode cX1_init 101 = .ok (.goto (-16), 3) := by decide +kernel
theorem dX1_init_104 : decode cX1_init 104 = .ok (.return_, 1) := by decide +kernel
theorem dX1_copyFrom_0 : decode cX1_copyFrom 0 = .ok (.aload_n 1, 1) := by decide +kernel
theorem dX1_copyFrom_1 : decode cX1_copyFrom 1 = .ok (.getfield 9, 3) := by decide +kernel
theorem dX1_copyFrom_4 : decode cX1_copyFrom 4 = .ok (.iconst 0, 1) := by decide +kernel
theorem dX1_copyFrom_5 : decode cX1_copyFrom 5 = .ok (.aload_n 0, 1) := by decide +kernel
theorem dX1_copyFrom_6 : decode cX1_copyFrom 6 = .ok (.getfield 9, 3) := by decide +kernel
theorem dX1_copyFrom_9 : decode cX1_copyFrom 9 = .ok (.iconst 0, 1) := by decide +kernel
theorem dX1_copyFrom_10 : decode cX1_copyFrom 10 = .ok (.bipush 121, 2) := by decide +kernel
theorem dX1_copyFrom_12 : decode cX1_copyFrom 12 = .ok (.invokestatic 43, 3) := by decide +kernel
theorem dX1_copyFrom_15 : decode cX1_copyFrom 15 = .ok (.aload_n 1, 1) := by decide +kernel
theorem dX1_copyFrom_16 : decode cX1_copyFrom 16 = .ok (.getfield 15, 3) := by decide +kernel
theorem dX1_copyFrom_19 : decode cX1_copyFrom 19 = .ok (.iconst 0, 1) := by decide +kernel
theorem dX1_copyFrom_20 : decode cX1_copyFrom 20 = .ok (.aload_n 0, 1) := by decide +kernel
theorem dX1_copyFrom_21 : decode cX1_copyFrom 21 = .ok (.getfield 15, 3) := by decide +kernel
theorem dX1_copyFrom_24 : decode cX1_copyFrom 24 = .ok (.iconst 0, 1) := by decide +kernel
theorem dX1_copyFrom_25 : decode cX1_copyFrom 25 = .ok (.bipush 10, 2) := by decide +kernel
theorem dX1_copyFrom_27 : decode cX1_copyFrom 27 = .ok (.invokestatic 43, 3) := by decide +kernel
theorem dX1_copyFrom_30 : decode cX1_copyFrom 30 = .ok (.aload_n 1, 1) := by decide +kernel
theorem dX1_copyFrom_31 : decode cX1_copyFrom 31 = .ok (.getfield 18, 3) := by decide +kernel
theorem dX1_copyFrom_34 : decode cX1_copyFrom 34 = .ok (.iconst 0, 1) := by decide +kernel
theorem dX1_copyFrom_35 : decode cX1_copyFrom 35 = .ok (.aload_n 0, 1) := by decide +kernel
theorem dX1_copyFrom_36 : decode cX1_copyFrom 36 = .ok (.getfield 18, 3) := by decide +kernel
theorem dX1_copyFrom_39 : decode cX1_copyFrom 39 = .ok (.iconst 0, 1) := by decide +kernel
theorem dX1_copyFrom_40 : decode cX1_copyFrom 40 = .ok (.bipush 10, 2) := by decide +kernel
theorem dX1_copyFrom_42 : decode cX1_copyFrom 42 = .ok (.invokestatic 43, 3) := by decide +kernel
theorem dX1_copyFrom_45 : decode cX1_copyFrom 45 = .ok (.aload_n 1, 1) := by decide +kernel
theorem dX1_copyFrom_46 : decode cX1_copyFrom 46 = .ok (.getfield 21, 3) := by decide +kernel
theorem dX1_copyFrom_49 : decode cX1_copyFrom 49 = .ok (.iconst 0, 1) := by decide +kernel
theorem dX1_copyFrom_50 : decode cX1_copyFrom 50 = .ok (.aload_n 0, 1) := by decide +kernel
theorem dX1_copyFrom_51 : decode cX1_copyFrom 51 = .ok (.getfield 21, 3) := by decide +kernel
theorem dX1_copyFrom_54 : decode cX1_copyFrom 54 = .ok (.iconst 0, 1) := by decide +kernel
theorem dX1_copyFrom_55 : decode cX1_copyFrom 55 = .ok (.bipush 10, 2) := by decide +kernel
theorem dX1_copyFrom_57 : decode cX1_copyFrom 57 = .ok (.invokestatic 43, 3) := by decide +kernel
theorem dX1_copyFrom_60 : decode cX1_copyFrom 60 = .ok (.aload_n 1, 1) := by decide +kernel
theorem dX1_copyFrom_61 : decode cX1_copyFrom 61 = .ok (.getfield 24, 3) := by decide +kernel
theorem dX1_copyFrom_64 : decode cX1_copyFrom 64 = .ok (.iconst 0, 1) := by decide +kernel
theorem dX1_copyFrom_65 : decode cX1_copyFrom 65 = .ok (.aload_n 0, 1) := by decide +kernel
theorem dX1_copyFrom_66 : decode cX1_copyFrom 66 = .ok (.getfield 24, 3) := by decide +kernel
theorem dX1_copyFrom_69 : decode cX1_copyFrom 69 = .ok (.iconst 0, 1) := by decide +kernel
theorem dX1_copyFrom_70 : decode cX1_copyFrom 70 = .ok (.bipush 10, 2) := by decide +kernel
theorem dX1_copyFrom_72 : decode cX1_copyFrom 72 = .ok (.invokestatic 43, 3) := by decide +kernel
theorem dX1_copyFrom_75 : decode cX1_copyFrom 75 = .ok (.aload_n 1, 1) := by decide +kernel
theorem dX1_copyFrom_76 : decode cX1_copyFrom 76 = .ok (.getfield 27, 3) := by decide +kernel
theorem dX1_copyFrom_79 : decode cX1_copyFrom 79 = .ok (.iconst 0, 1) := by decide +kernel
theorem dX1_copyFrom_80 : decode cX1_copyFrom 80 = .ok (.aload_n 0, 1) := by decide +kernel
theorem dX1_copyFrom_81 : decode cX1_copyFrom 81 = .ok (.getfield 27, 3) := by decide +kernel
theorem dX1_copyFrom_84 : decode cX1_copyFrom 84 = .ok (.iconst 0, 1) := by decide +kernel
theorem dX1_copyFrom_85 : decode cX1_copyFrom 85 = .ok (.bipush 8, 2) := by decide +kernel
theorem dX1_copyFrom_87 : decode cX1_copyFrom 87 = .ok (.invokestatic 43, 3) := by decide +kernel
theorem dX1_copyFrom_90 : decode cX1_copyFrom 90 = .ok (.aload_n 1, 1) := by decide +kernel
theorem dX1_copyFrom_91 : decode cX1_copyFrom 91 = .ok (.getfield 30, 3) := by decide +kernel
theorem dX1_copyFrom_94 : decode cX1_copyFrom 94 = .ok (.iconst 0, 1) := by decide +kernel
theorem dX1_copyFrom_95 : decode cX1_copyFrom 95 = .ok (.aload_n 0, 1) := by decide +kernel
theorem dX1_copyFrom_96 : decode cX1_copyFrom 96 = .ok (.getfield 30, 3) := by decide +kernel
theorem dX1_copyFrom_99 : decode cX1_copyFrom 99 = .ok (.iconst 0, 1) := by decide +kernel
theorem dX1_copyFrom_100 : decode cX1_copyFrom 100 = .ok (.bipush 8, 2) := by decide +kernel
theorem dX1_copyFrom_102 : decode cX1_copyFrom 102 = .ok (.invokestatic 43, 3) := by decide +kernel
theorem dX1_copyFrom_105 : decode cX1_copyFrom 105 = .ok (.aload_n 0, 1) := by decide +kernel
theorem dX1_copyFrom_106 : decode cX1_copyFrom 106 = .ok (.aload_n 1, 1) := by decide +kernel
theorem dX1_copyFrom_107 : decode cX1_copyFrom 107 = .ok (.getfield 49, 3) := by decide +kernel
theorem dX1_copyFrom_110 : decode cX1_copyFrom 110 = .ok (.putfield 49, 3) := by decide +kernel
theorem dX1_copyFrom_113 : decode cX1_copyFrom 113 = .ok (.aload_n 0, 1) := by decide +kernel
theorem dX1_copyFrom_114 : decode cX1_copyFrom 114 = .ok (.aload_n 1, 1) := by decide +kernel
theorem dX1_copyFrom_115 : decode cX1_copyFrom 115 = .ok (.getfield 33, 3) := by decide +kernel
theorem dX1_copyFrom_118 : decode cX1_copyFrom 118 = .ok (.putfield 33, 3) := by decide +kernel
theorem dX1_copyFrom_121 : decode cX1_copyFrom 121 = .ok (.aload_n 0, 1) := by decide +kernel
theorem dX1_copyFrom_122 : decode cX1_copyFrom 122 = .ok (.aload_n 1, 1) := by decide +kernel
theorem dX1_copyFrom_123 : decode cX1_copyFrom 123 = .ok (.getfield 52, 3) := by decide +kernel
theorem dX1_copyFrom_126 : decode cX1_copyFrom 126 = .ok (.putfield 52, 3) := by decide +kernel
theorem dX1_copyFrom_129 : decode cX1_copyFrom 129 = .ok (.aload_n 0, 1) := by decide +kernel
theorem dX1_copyFrom_130 : decode cX1_copyFrom 130 = .ok (.aload_n 1, 1) := by decide +kernel
theorem dX1_copyFrom_131 : decode cX1_copyFrom 131 = .ok (.getfield 55, 3) := by decide +kernel
theorem dX1_copyFrom_134 : decode cX1_copyFrom 134 = .ok (.putfield 55, 3) := by decide +kernel
theorem dX1_copyFrom_137 : decode cX1_copyFrom 137 = .ok (.aload_n 0, 1) := by decide +kernel
theorem dX1_copyFrom_138 : decode cX1_copyFrom 138 = .ok (.aload_n 1, 1) := by decide +kernel
theorem dX1_copyFrom_139 : decode cX1_copyFrom 139 = .ok (.getfield 58, 3) := by decide +kernel
theorem dX1_copyFrom_142 : decode cX1_copyFrom 142 = .ok (.putfield 58, 3) := by decide +kernel
theorem dX1_copyFrom_145 : decode cX1_copyFrom 145 = .ok (.return_, 1) := by decide +kernel
set_option maxRecDepth 20000 in
theorem ggX1_longBetween_X6_isPlace : GoodIn wsX1_longBetween wsX6_isPlace := goodIn_r _ [4] (by decide +kernel) (by decide +kernel)
set_option maxRecDepth 20000 in
theorem gX1_longBetween_X6_isPlace_n61 : GoodIn wsX1_longBetween (wsX6_isPlace) := ggX1_longBetween_X6_isPlace
theorem dX1_longBetween_0 : decode cX1_longBetween 0 = .ok (.iload_n 1, 1) := by decide +kernel
theorem dX1_longBetween_1 : decode cX1_longBetween 1 = .ok (.invokestatic 61, 3) := by decide +kernel
theorem dX1_longBetween_4 : decode cX1_longBetween 4 = .ok (.ifCond .eq 24, 3) := by decide +kernel
theorem dX1_longBetween_7 : decode cX1_longBetween 7 = .ok (.iload_n 2, 1) := by decide +kernel
theorem dX1_longBetween_8 : decode cX1_longBetween 8 = .ok (.invokestatic 61, 3) := by decide +kernel
theorem dX1_longBetween_11 : decode cX1_longBetween 11 = .ok (.ifCond .eq 17, 3) := by decide +kernel
theorem dX1_longBetween_14 : decode cX1_longBetween 14 = .ok (.aload_n 0, 1) := by decide +kernel
theorem dX1_longBetween_15 : decode cX1_longBetween 15 = .ok (.getfield 9, 3) := by decide +kernel
theorem dX1_longBetween_18 : decode cX1_longBetween 18 = .ok (.iload_n 1, 1) := by decide +kernel
theorem dX1_longBetween_19 : decode cX1_longBetween 19 = .ok (.bipush 11, 2) := by decide +kernel
theorem dX1_longBetween_21 : decode cX1_longBetween 21 = .ok (.imul, 1) := by decide +kernel
theorem dX1_longBetween_22 : decode cX1_longBetween 22 = .ok (.iload_n 2, 1) := by decide +kernel
theorem dX1_longBetween_23 : decode cX1_longBetween 23 = .ok (.iadd, 1) := by decide +kernel
theorem dX1_longBetween_24 : decode cX1_longBetween 24 = .ok (.iaload, 1) := by decide +kernel
theorem dX1_longBetween_25 : decode cX1_longBetween 25 = .ok (.goto 4, 3) := by decide +kernel
theorem dX1_longBetween_28 : decode cX1_longBetween 28 = .ok (.iconst 0, 1) := by decide +kernel
theorem dX1_longBetween_29 : decode cX1_longBetween 29 = .ok (.ireturn, 1) := by decide +kernel
set_option maxRecDepth 20000 in
theorem ggX1_layRoad_X6_isPlace : GoodIn wsX1_layRoad wsX6_isPlace := goodIn_r _ [4] (by decide +kernel) (by decide +kernel)
set_option maxRecDepth 20000 in
theorem gX1_layRoad_X6_isPlace_n61 : GoodIn wsX1_layRoad (wsX6_isPlace) := ggX1_layRoad_X6_isPlace
theorem dX1_layRoad_0 : decode cX1_layRoad 0 = .ok (.iload_n 1, 1) := by decide +kernel
theorem dX1_layRoad_1 : decode cX1_layRoad 1 = .ok (.invokestatic 61, 3) := by decide +kernel
theorem dX1_layRoad_4 : decode cX1_layRoad 4 = .ok (.ifCond .eq 34, 3) := by decide +kernel
theorem dX1_layRoad_7 : decode cX1_layRoad 7 = .ok (.iload_n 2, 1) := by decide +kernel
theorem dX1_layRoad_8 : decode cX1_layRoad 8 = .ok (.invokestatic 61, 3) := by decide +kernel
theorem dX1_layRoad_11 : decode cX1_layRoad 11 = .ok (.ifCond .eq 27, 3) := by decide +kernel
theorem dX1_layRoad_14 : decode cX1_layRoad 14 = .ok (.aload_n 0, 1) := by decide +kernel
theorem dX1_layRoad_15 : decode cX1_layRoad 15 = .ok (.getfield 9, 3) := by decide +kernel
theorem dX1_layRoad_18 : decode cX1_layRoad 18 = .ok (.iload_n 1, 1) := by decide +kernel
theorem dX1_layRoad_19 : decode cX1_layRoad 19 = .ok (.bipush 11, 2) := by decide +kernel
theorem dX1_layRoad_21 : decode cX1_layRoad 21 = .ok (.imul, 1) := by decide +kernel
theorem dX1_layRoad_22 : decode cX1_layRoad 22 = .ok (.iload_n 2, 1) := by decide +kernel
theorem dX1_layRoad_23 : decode cX1_layRoad 23 = .ok (.iadd, 1) := by decide +kernel
theorem dX1_layRoad_24 : decode cX1_layRoad 24 = .ok (.iload_n 3, 1) := by decide +kernel
theorem dX1_layRoad_25 : decode cX1_layRoad 25 = .ok (.iastore, 1) := by decide +kernel
theorem dX1_layRoad_26 : decode cX1_layRoad 26 = .ok (.aload_n 0, 1) := by decide +kernel
theorem dX1_layRoad_27 : decode cX1_layRoad 27 = .ok (.getfield 9, 3) := by decide +kernel
theorem dX1_layRoad_30 : decode cX1_layRoad 30 = .ok (.iload_n 2, 1) := by decide +kernel
theorem dX1_layRoad_31 : decode cX1_layRoad 31 = .ok (.bipush 11, 2) := by decide +kernel
theorem dX1_layRoad_33 : decode cX1_layRoad 33 = .ok (.imul, 1) := by decide +kernel
theorem dX1_layRoad_34 : decode cX1_layRoad 34 = .ok (.iload_n 1, 1) := by decide +kernel
theorem dX1_layRoad_35 : decode cX1_layRoad 35 = .ok (.iadd, 1) := by decide +kernel
theorem dX1_layRoad_36 : decode cX1_layRoad 36 = .ok (.iload_n 3, 1) := by decide +kernel
theorem dX1_layRoad_37 : decode cX1_layRoad 37 = .ok (.iastore, 1) := by decide +kernel
theorem dX1_layRoad_38 : decode cX1_layRoad 38 = .ok (.return_, 1) := by decide +kernel
set_option maxRecDepth 20000 in
theorem ggX1_doubtOf_X6_isHouse : GoodIn wsX1_doubtOf wsX6_isHouse := goodIn_r _ [4] (by decide +kernel) (by decide +kernel)
set_option maxRecDepth 20000 in
theorem gX1_doubtOf_X6_isHouse_n65 : GoodIn wsX1_doubtOf (wsX6_isHouse) := ggX1_doubtOf_X6_isHouse
theorem dX1_doubtOf_0 : decode cX1_doubtOf 0 = .ok (.iload_n 1, 1) := by decide +kernel
theorem dX1_doubtOf_1 : decode cX1_doubtOf 1 = .ok (.invokestatic 65, 3) := by decide +kernel
theorem dX1_doubtOf_4 : decode cX1_doubtOf 4 = .ok (.ifCond .eq 12, 3) := by decide +kernel
theorem dX1_doubtOf_7 : decode cX1_doubtOf 7 = .ok (.aload_n 0, 1) := by decide +kernel
theorem dX1_doubtOf_8 : decode cX1_doubtOf 8 = .ok (.getfield 15, 3) := by decide +kernel
theorem dX1_doubtOf_11 : decode cX1_doubtOf 11 = .ok (.iload_n 1, 1) := by decide +kernel
theorem dX1_doubtOf_12 : decode cX1_doubtOf 12 = .ok (.iaload, 1) := by decide +kernel
theorem dX1_doubtOf_13 : decode cX1_doubtOf 13 = .ok (.goto 5, 3) := by decide +kernel
theorem dX1_doubtOf_16 : decode cX1_doubtOf 16 = .ok (.bipush 9, 2) := by decide +kernel
theorem dX1_doubtOf_18 : decode cX1_doubtOf 18 = .ok (.ireturn, 1) := by decide +kernel
set_option maxRecDepth 20000 in
theorem ggX1_isDamp_X6_isHouse : GoodIn wsX1_isDamp wsX6_isHouse := goodIn_r _ [4] (by decide +kernel) (by decide +kernel)
set_option maxRecDepth 20000 in
theorem gX1_isDamp_X6_isHouse_n65 : GoodIn wsX1_isDamp (wsX6_isHouse) := ggX1_isDamp_X6_isHouse
theorem dX1_isDamp_0 : decode cX1_isDamp 0 = .ok (.iload_n 1, 1) := by decide +kernel
theorem dX1_isDamp_1 : decode cX1_isDamp 1 = .ok (.invokestatic 65, 3) := by decide +kernel
theorem dX1_isDamp_4 : decode cX1_isDamp 4 = .ok (.ifCond .eq 17, 3) := by decide +kernel
theorem dX1_isDamp_7 : decode cX1_isDamp 7 = .ok (.aload_n 0, 1) := by decide +kernel
theorem dX1_isDamp_8 : decode cX1_isDamp 8 = .ok (.getfield 18, 3) := by decide +kernel
theorem dX1_isDamp_11 : decode cX1_isDamp 11 = .ok (.iload_n 1, 1) := by decide +kernel
theorem dX1_isDamp_12 : decode cX1_isDamp 12 = .ok (.iaload, 1) := by decide +kernel
theorem dX1_isDamp_13 : decode cX1_isDamp 13 = .ok (.iconst 1, 1) := by decide +kernel
theorem dX1_isDamp_14 : decode cX1_isDamp 14 = .ok (.if_icmp .ne 7, 3) := by decide +kernel
theorem dX1_isDamp_17 : decode cX1_isDamp 17 = .ok (.iconst 1, 1) := by decide +kernel
theorem dX1_isDamp_18 : decode cX1_isDamp 18 = .ok (.goto 4, 3) := by decide +kernel
theorem dX1_isDamp_21 : decode cX1_isDamp 21 = .ok (.iconst 0, 1) := by decide +kernel
theorem dX1_isDamp_22 : decode cX1_isDamp 22 = .ok (.ireturn, 1) := by decide +kernel
set_option maxRecDepth 20000 in
theorem ggX1_beliefOf_X6_isHouse : GoodIn wsX1_beliefOf wsX6_isHouse := goodIn_r _ [4] (by decide +kernel) (by decide +kernel)
set_option maxRecDepth 20000 in
theorem gX1_beliefOf_X6_isHouse_n65 : GoodIn wsX1_beliefOf (wsX6_isHouse) := ggX1_beliefOf_X6_isHouse
theorem dX1_beliefOf_0 : decode cX1_beliefOf 0 = .ok (.iload_n 1, 1) := by decide +kernel
theorem dX1_beliefOf_1 : decode cX1_beliefOf 1 = .ok (.invokestatic 65, 3) := by decide +kernel
theorem dX1_beliefOf_4 : decode cX1_beliefOf 4 = .ok (.ifCond .eq 12, 3) := by decide +kernel
theorem dX1_beliefOf_7 : decode cX1_beliefOf 7 = .ok (.aload_n 0, 1) := by decide +kernel
theorem dX1_beliefOf_8 : decode cX1_beliefOf 8 = .ok (.getfield 21, 3) := by decide +kernel
theorem dX1_beliefOf_11 : decode cX1_beliefOf 11 = .ok (.iload_n 1, 1) := by decide +kernel
theorem dX1_beliefOf_12 : decode cX1_beliefOf 12 = .ok (.iaload, 1) := by decide +kernel
theorem dX1_beliefOf_13 : decode cX1_beliefOf 13 = .ok (.goto 5, 3) := by decide +kernel
theorem dX1_beliefOf_16 : decode cX1_beliefOf 16 = .ok (.bipush (-6), 2) := by decide +kernel
theorem dX1_beliefOf_18 : decode cX1_beliefOf 18 = .ok (.ireturn, 1) := by decide +kernel
set_option maxRecDepth 20000 in
theorem ggX1_furnish_X6_isHouse : GoodIn wsX1_furnish wsX6_isHouse := goodIn_r _ [5] (by decide +kernel) (by decide +kernel)
set_option maxRecDepth 20000 in
theorem gX1_furnish_X6_isHouse_n65 : GoodIn wsX1_furnish (wsX6_isHouse) := ggX1_furnish_X6_isHouse
theorem dX1_furnish_0 : decode cX1_furnish 0 = .ok (.iload_n 1, 1) := by decide +kernel
theorem dX1_furnish_1 : decode cX1_furnish 1 = .ok (.invokestatic 65, 3) := by decide +kernel
theorem dX1_furnish_4 : decode cX1_furnish 4 = .ok (.ifCond .eq 17, 3) := by decide +kernel
theorem dX1_furnish_7 : decode cX1_furnish 7 = .ok (.aload_n 0, 1) := by decide +kernel
theorem dX1_furnish_8 : decode cX1_furnish 8 = .ok (.getfield 15, 3) := by decide +kernel
theorem dX1_furnish_11 : decode cX1_furnish 11 = .ok (.iload_n 1, 1) := by decide +kernel
theorem dX1_furnish_12 : decode cX1_furnish 12 = .ok (.iload_n 2, 1) := by decide +kernel
theorem dX1_furnish_13 : decode cX1_furnish 13 = .ok (.iastore, 1) := by decide +kernel
theorem dX1_furnish_14 : decode cX1_furnish 14 = .ok (.aload_n 0, 1) := by decide +kernel
theorem dX1_furnish_15 : decode cX1_furnish 15 = .ok (.getfield 18, 3) := by decide +kernel
theorem dX1_furnish_18 : decode cX1_furnish 18 = .ok (.iload_n 1, 1) := by decide +kernel
theorem dX1_furnish_19 : decode cX1_furnish 19 = .ok (.iload_n 3, 1) := by decide +kernel
theorem dX1_furnish_20 : decode cX1_furnish 20 = .ok (.iastore, 1) := by decide +kernel
theorem dX1_furnish_21 : decode cX1_furnish 21 = .ok (.return_, 1) := by decide +kernel
set_option maxRecDepth 20000 in
theorem ggX1_convince_X6_isHouse : GoodIn wsX1_convince wsX6_isHouse := goodIn_r _ [4] (by decide +kernel) (by decide +kernel)
set_option maxRecDepth 20000 in
theorem gX1_convince_X6_isHouse_n65 : GoodIn wsX1_convince (wsX6_isHouse) := ggX1_convince_X6_isHouse
theorem dX1_convince_0 : decode cX1_convince 0 = .ok (.iload_n 1, 1) := by decide +kernel
theorem dX1_convince_1 : decode cX1_convince 1 = .ok (.invokestatic 65, 3) := by decide +kernel
theorem dX1_convince_4 : decode cX1_convince 4 = .ok (.ifCond .eq 10, 3) := by decide +kernel
theorem dX1_convince_7 : decode cX1_convince 7 = .ok (.aload_n 0, 1) := by decide +kernel
theorem dX1_convince_8 : decode cX1_convince 8 = .ok (.getfield 21, 3) := by decide +kernel
theorem dX1_convince_11 : decode cX1_convince 11 = .ok (.iload_n 1, 1) := by decide +kernel
theorem dX1_convince_12 : decode cX1_convince 12 = .ok (.iload_n 2, 1) := by decide +kernel
theorem dX1_convince_13 : decode cX1_convince 13 = .ok (.iastore, 1) := by decide +kernel
theorem dX1_convince_14 : decode cX1_convince 14 = .ok (.return_, 1) := by decide +kernel
set_option maxRecDepth 20000 in
theorem ggX1_houseFact_X1_beliefOf : GoodIn wsX1_houseFact wsX1_beliefOf := goodIn_r _ [5, 6, 7, 8, 9, 20, 21, 22, 23, 24, 25, 26, 27, 28, 29, 30, 31] (by decide +kernel) (by decide +kernel)
set_option maxRecDepth 20000 in
theorem gX1_houseFact_X1_beliefOf : GoodIn wsX1_houseFact (wsV RX1 68 RX1 yX1_beliefOf wsX1_beliefOf) := goodIn_app (goodIn_of _ (by decide +kernel)) ggX1_houseFact_X1_beliefOf
set_option maxRecDepth 20000 in
theorem ggX1_houseFact_X1_doubtOf : GoodIn wsX1_houseFact wsX1_doubtOf := goodIn_r _ [13, 14, 7, 8, 9, 20, 21, 22, 23, 24, 25, 26, 27, 28, 29, 30, 31] (by decide +kernel) (by decide +kernel)
set_option maxRecDepth 20000 in
theorem gX1_houseFact_X1_doubtOf : GoodIn wsX1_houseFact (wsV RX1 72 RX1 yX1_doubtOf wsX1_doubtOf) := goodIn_app (goodIn_of _ (by decide +kernel)) ggX1_houseFact_X1_doubtOf
set_option maxRecDepth 20000 in
theorem ggX1_houseFact_X1_isDamp : GoodIn wsX1_houseFact wsX1_isDamp := goodIn_r _ [18, 19, 7, 8, 9, 20, 21, 22, 23, 24, 25, 26, 27, 28, 29, 30, 31] (by decide +kernel) (by decide +kernel)
set_option maxRecDepth 20000 in
theorem gX1_houseFact_X1_isDamp : GoodIn wsX1_houseFact (wsV RX1 75 RX1 yX1_isDamp wsX1_isDamp) := goodIn_app (goodIn_of _ (by decide +kernel)) ggX1_houseFact_X1_isDamp
theorem dX1_houseFact_0 : decode cX1_houseFact 0 = .ok (.iload_n 2, 1) := by decide +kernel
theorem dX1_houseFact_1 : decode cX1_houseFact 1 = .ok (.lookupswitch 39 #[(0, 27), (1, 33)], 27) := by decide +kernel
theorem dX1_houseFact_28 : decode cX1_houseFact 28 = .ok (.aload_n 0, 1) := by decide +kernel
theorem dX1_houseFact_29 : decode cX1_houseFact 29 = .ok (.iload_n 1, 1) := by decide +kernel
theorem dX1_houseFact_30 : decode cX1_houseFact 30 = .ok (.invokevirtual 68, 3) := by decide +kernel
theorem dX1_houseFact_33 : decode cX1_houseFact 33 = .ok (.ireturn, 1) := by decide +kernel
theorem dX1_houseFact_34 : decode cX1_houseFact 34 = .ok (.aload_n 0, 1) := by decide +kernel
theorem dX1_houseFact_35 : decode cX1_houseFact 35 = .ok (.iload_n 1, 1) := by decide +kernel
theorem dX1_houseFact_36 : decode cX1_houseFact 36 = .ok (.invokevirtual 72, 3) := by decide +kernel
theorem dX1_houseFact_39 : decode cX1_houseFact 39 = .ok (.ireturn, 1) := by decide +kernel
theorem dX1_houseFact_40 : decode cX1_houseFact 40 = .ok (.aload_n 0, 1) := by decide +kernel
theorem dX1_houseFact_41 : decode cX1_houseFact 41 = .ok (.iload_n 1, 1) := by decide +kernel
theorem dX1_houseFact_42 : decode cX1_houseFact 42 = .ok (.invokevirtual 75, 3) := by decide +kernel
theorem dX1_houseFact_45 : decode cX1_houseFact 45 = .ok (.ifCond .eq 7, 3) := by decide +kernel
theorem dX1_houseFact_48 : decode cX1_houseFact 48 = .ok (.iconst 1, 1) := by decide +kernel
theorem dX1_houseFact_49 : decode cX1_houseFact 49 = .ok (.goto 4, 3) := by decide +kernel
theorem dX1_houseFact_52 : decode cX1_houseFact 52 = .ok (.iconst 0, 1) := by decide +kernel
theorem dX1_houseFact_53 : decode cX1_houseFact 53 = .ok (.ireturn, 1) := by decide +kernel
theorem dX1_panFact_0 : decode cX1_panFact 0 = .ok (.iload_n 1, 1) := by decide +kernel
theorem dX1_panFact_1 : decode cX1_panFact 1 = .ok (.tableswitch 42 0 2 #[27, 32, 37], 27) := by decide +kernel
theorem dX1_panFact_28 : decode cX1_panFact 28 = .ok (.aload_n 0, 1) := by decide +kernel
theorem dX1_panFact_29 : decode cX1_panFact 29 = .ok (.getfield 33, 3) := by decide +kernel
theorem dX1_panFact_32 : decode cX1_panFact 32 = .ok (.ireturn, 1) := by decide +kernel
theorem dX1_panFact_33 : decode cX1_panFact 33 = .ok (.aload_n 0, 1) := by decide +kernel
theorem dX1_panFact_34 : decode cX1_panFact 34 = .ok (.getfield 52, 3) := by decide +kernel
theorem dX1_panFact_37 : decode cX1_panFact 37 = .ok (.ireturn, 1) := by decide +kernel
theorem dX1_panFact_38 : decode cX1_panFact 38 = .ok (.aload_n 0, 1) := by decide +kernel
theorem dX1_panFact_39 : decode cX1_panFact 39 = .ok (.getfield 55, 3) := by decide +kernel
theorem dX1_panFact_42 : decode cX1_panFact 42 = .ok (.ireturn, 1) := by decide +kernel
theorem dX1_panFact_43 : decode cX1_panFact 43 = .ok (.aload_n 0, 1) := by decide +kernel
theorem dX1_panFact_44 : decode cX1_panFact 44 = .ok (.getfield 58, 3) := by decide +kernel
theorem dX1_panFact_47 : decode cX1_panFact 47 = .ok (.ireturn, 1) := by decide +kernel
theorem dX1_believersOf_0 : decode cX1_believersOf 0 = .ok (.iconst 0, 1) := by decide +kernel
theorem dX1_believersOf_1 : decode cX1_believersOf 1 = .ok (.istore_n 2, 1) := by decide +kernel
theorem dX1_believersOf_2 : decode cX1_believersOf 2 = .ok (.iconst 0, 1) := by decide +kernel
theorem dX1_believersOf_3 : decode cX1_believersOf 3 = .ok (.istore_n 3, 1) := by decide +kernel
theorem dX1_believersOf_4 : decode cX1_believersOf 4 = .ok (.iload_n 3, 1) := by decide +kernel
theorem dX1_believersOf_5 : decode cX1_believersOf 5 = .ok (.bipush 10, 2) := by decide +kernel
theorem dX1_believersOf_7 : decode cX1_believersOf 7 = .ok (.if_icmp .ge 25, 3) := by decide +kernel
theorem dX1_believersOf_10 : decode cX1_believersOf 10 = .ok (.aload_n 0, 1) := by decide +kernel
theorem dX1_believersOf_11 : decode cX1_believersOf 11 = .ok (.getfield 21, 3) := by decide +kernel
theorem dX1_believersOf_14 : decode cX1_believersOf 14 = .ok (.iload_n 3, 1) := by decide +kernel
theorem dX1_believersOf_15 : decode cX1_believersOf 15 = .ok (.iaload, 1) := by decide +kernel
theorem dX1_believersOf_16 : decode cX1_believersOf 16 = .ok (.iload_n 1, 1) := by decide +kernel
theorem dX1_believersOf_17 : decode cX1_believersOf 17 = .ok (.if_icmp .ne 9, 3) := by decide +kernel
theorem dX1_believersOf_20 : decode cX1_believersOf 20 = .ok (.iload_n 2, 1) := by decide +kernel
theorem dX1_believersOf_21 : decode cX1_believersOf 21 = .ok (.iconst 1, 1) := by decide +kernel
theorem dX1_believersOf_22 : decode cX1_believersOf 22 = .ok (.iload_n 3, 1) := by decide +kernel
theorem dX1_believersOf_23 : decode cX1_believersOf 23 = .ok (.ishl, 1) := by decide +kernel
theorem dX1_believersOf_24 : decode cX1_believersOf 24 = .ok (.ior, 1) := by decide +kernel
theorem dX1_believersOf_25 : decode cX1_believersOf 25 = .ok (.istore_n 2, 1) := by decide +kernel
theorem dX1_believersOf_26 : decode cX1_believersOf 26 = .ok (.iinc 3 1, 3) := by decide +kernel
theorem dX1_believersOf_29 : decode cX1_believersOf 29 = .ok (.goto (-25), 3) := by decide +kernel
theorem dX1_believersOf_32 : decode cX1_believersOf 32 = .ok (.iload_n 2, 1) := by decide +kernel
theorem dX1_believersOf_33 : decode cX1_believersOf 33 = .ok (.ireturn, 1) := by decide +kernel
set_option maxRecDepth 20000 in
theorem ggX1_fadesInto_X6_isTale : GoodIn wsX1_fadesInto wsX6_isTale := goodIn_r _ [4] (by decide +kernel) (by decide +kernel)
set_option maxRecDepth 20000 in
theorem gX1_fadesInto_X6_isTale_n86 : GoodIn wsX1_fadesInto (wsX6_isTale) := ggX1_fadesInto_X6_isTale
theorem dX1_fadesInto_0 : decode cX1_fadesInto 0 = .ok (.iload_n 1, 1) := by decide +kernel
theorem dX1_fadesInto_1 : decode cX1_fadesInto 1 = .ok (.invokestatic 86, 3) := by decide +kernel
theorem dX1_fadesInto_4 : decode cX1_fadesInto 4 = .ok (.ifCond .eq 12, 3) := by decide +kernel
theorem dX1_fadesInto_7 : decode cX1_fadesInto 7 = .ok (.aload_n 0, 1) := by decide +kernel
theorem dX1_fadesInto_8 : decode cX1_fadesInto 8 = .ok (.getfield 24, 3) := by decide +kernel
theorem dX1_fadesInto_11 : decode cX1_fadesInto 11 = .ok (.iload_n 1, 1) := by decide +kernel
theorem dX1_fadesInto_12 : decode cX1_fadesInto 12 = .ok (.iaload, 1) := by decide +kernel
theorem dX1_fadesInto_13 : decode cX1_fadesInto 13 = .ok (.goto 5, 3) := by decide +kernel
theorem dX1_fadesInto_16 : decode cX1_fadesInto 16 = .ok (.bipush (-6), 2) := by decide +kernel
theorem dX1_fadesInto_18 : decode cX1_fadesInto 18 = .ok (.ireturn, 1) := by decide +kernel
set_option maxRecDepth 20000 in
theorem ggX1_letFade_X6_isTale : GoodIn wsX1_letFade wsX6_isTale := goodIn_r _ [4] (by decide +kernel) (by decide +kernel)
set_option maxRecDepth 20000 in
theorem gX1_letFade_X6_isTale_n86 : GoodIn wsX1_letFade (wsX6_isTale) := ggX1_letFade_X6_isTale
theorem dX1_letFade_0 : decode cX1_letFade 0 = .ok (.iload_n 1, 1) := by decide +kernel
theorem dX1_letFade_1 : decode cX1_letFade 1 = .ok (.invokestatic 86, 3) := by decide +kernel
theorem dX1_letFade_4 : decode cX1_letFade 4 = .ok (.ifCond .eq 10, 3) := by decide +kernel
theorem dX1_letFade_7 : decode cX1_letFade 7 = .ok (.aload_n 0, 1) := by decide +kernel
theorem dX1_letFade_8 : decode cX1_letFade 8 = .ok (.getfield 24, 3) := by decide +kernel
theorem dX1_letFade_11 : decode cX1_letFade 11 = .ok (.iload_n 1, 1) := by decide +kernel
theorem dX1_letFade_12 : decode cX1_letFade 12 = .ok (.iload_n 2, 1) := by decide +kernel
theorem dX1_letFade_13 : decode cX1_letFade 13 = .ok (.iastore, 1) := by decide +kernel
theorem dX1_letFade_14 : decode cX1_letFade 14 = .ok (.return_, 1) := by decide +kernel
set_option maxRecDepth 20000 in
theorem ggX1_behindStirs_X1_fadesInto : GoodIn wsX1_behindStirs wsX1_fadesInto := goodIn_r _ [5, 6, 7, 8, 9, 10, 11, 12, 13, 14, 15, 16, 17, 18, 19, 20, 21] (by decide +kernel) (by decide +kernel)
set_option maxRecDepth 20000 in
theorem gX1_behindStirs_X1_fadesInto : GoodIn wsX1_behindStirs (wsV RX1 89 RX1 yX1_fadesInto wsX1_fadesInto) := goodIn_app (goodIn_of _ (by decide +kernel)) ggX1_behindStirs_X1_fadesInto
theorem dX1_behindStirs_0 : decode cX1_behindStirs 0 = .ok (.iload_n 1, 1) := by decide +kernel
theorem dX1_behindStirs_1 : decode cX1_behindStirs 1 = .ok (.istore_n 3, 1) := by decide +kernel
theorem dX1_behindStirs_2 : decode cX1_behindStirs 2 = .ok (.iconst 0, 1) := by decide +kernel
theorem dX1_behindStirs_3 : decode cX1_behindStirs 3 = .ok (.istore 4, 2) := by decide +kernel
theorem dX1_behindStirs_5 : decode cX1_behindStirs 5 = .ok (.iload 4, 2) := by decide +kernel
theorem dX1_behindStirs_7 : decode cX1_behindStirs 7 = .ok (.iload_n 2, 1) := by decide +kernel
theorem dX1_behindStirs_8 : decode cX1_behindStirs 8 = .ok (.if_icmp .ge 15, 3) := by decide +kernel
theorem dX1_behindStirs_11 : decode cX1_behindStirs 11 = .ok (.aload_n 0, 1) := by decide +kernel
theorem dX1_behindStirs_12 : decode cX1_behindStirs 12 = .ok (.iload_n 3, 1) := by decide +kernel
theorem dX1_behindStirs_13 : decode cX1_behindStirs 13 = .ok (.invokevirtual 89, 3) := by decide +kernel
theorem dX1_behindStirs_16 : decode cX1_behindStirs 16 = .ok (.istore_n 3, 1) := by decide +kernel
theorem dX1_behindStirs_17 : decode cX1_behindStirs 17 = .ok (.iinc 4 1, 3) := by decide +kernel
theorem dX1_behindStirs_20 : decode cX1_behindStirs 20 = .ok (.goto (-15), 3) := by decide +kernel
theorem dX1_behindStirs_23 : decode cX1_behindStirs 23 = .ok (.iload_n 3, 1) := by decide +kernel
theorem dX1_behindStirs_24 : decode cX1_behindStirs 24 = .ok (.ireturn, 1) := by decide +kernel
set_option maxRecDepth 20000 in
theorem ggX1_stirsToRing_X6_isTale : GoodIn wsX1_stirsToRing wsX6_isTale := goodIn_r _ [3] (by decide +kernel) (by decide +kernel)
set_option maxRecDepth 20000 in
theorem gX1_stirsToRing_X6_isTale_n86 : GoodIn wsX1_stirsToRing (wsX6_isTale) := ggX1_stirsToRing_X6_isTale
set_option maxRecDepth 20000 in
theorem ggX1_stirsToRing_X6_isIn : GoodIn wsX1_stirsToRing wsX6_isIn := goodIn_r _ [5] (by decide +kernel) (by decide +kernel)
set_option maxRecDepth 20000 in
theorem gX1_stirsToRing_X6_isIn_n92 : GoodIn wsX1_stirsToRing (wsX6_isIn) := ggX1_stirsToRing_X6_isIn
set_option maxRecDepth 20000 in
theorem ggX1_stirsToRing_X1_fadesInto : GoodIn wsX1_stirsToRing wsX1_fadesInto := goodIn_r _ [10, 11, 1, 2, 3, 12, 13, 14, 15, 16, 17, 18, 19, 20, 21, 22, 23] (by decide +kernel) (by decide +kernel)
set_option maxRecDepth 20000 in
theorem gX1_stirsToRing_X1_fadesInto : GoodIn wsX1_stirsToRing (wsV RX1 89 RX1 yX1_fadesInto wsX1_fadesInto) := goodIn_app (goodIn_of _ (by decide +kernel)) ggX1_stirsToRing_X1_fadesInto
theorem dX1_stirsToRing_0 : decode cX1_stirsToRing 0 = .ok (.iconst 0, 1) := by decide +kernel
theorem dX1_stirsToRing_1 : decode cX1_stirsToRing 1 = .ok (.istore_n 2, 1) := by decide +kernel
theorem dX1_stirsToRing_2 : decode cX1_stirsToRing 2 = .ok (.iload_n 1, 1) := by decide +kernel
theorem dX1_stirsToRing_3 : decode cX1_stirsToRing 3 = .ok (.istore_n 3, 1) := by decide +kernel
theorem dX1_stirsToRing_4 : decode cX1_stirsToRing 4 = .ok (.iconst 0, 1) := by decide +kernel
theorem dX1_stirsToRing_5 : decode cX1_stirsToRing 5 = .ok (.istore 4, 2) := by decide +kernel
theorem dX1_stirsToRing_7 : decode cX1_stirsToRing 7 = .ok (.iload 4, 2) := by decide +kernel
theorem dX1_stirsToRing_9 : decode cX1_stirsToRing 9 = .ok (.bipush 10, 2) := by decide +kernel
theorem dX1_stirsToRing_11 : decode cX1_stirsToRing 11 = .ok (.if_icmp .gt 39, 3) := by decide +kernel
theorem dX1_stirsToRing_14 : decode cX1_stirsToRing 14 = .ok (.iload_n 3, 1) := by decide +kernel
theorem dX1_stirsToRing_15 : decode cX1_stirsToRing 15 = .ok (.invokestatic 86, 3) := by decide +kernel
theorem dX1_stirsToRing_18 : decode cX1_stirsToRing 18 = .ok (.ifCond .eq 11, 3) := by decide +kernel
theorem dX1_stirsToRing_21 : decode cX1_stirsToRing 21 = .ok (.iload_n 3, 1) := by decide +kernel
theorem dX1_stirsToRing_22 : decode cX1_stirsToRing 22 = .ok (.iload_n 2, 1) := by decide +kernel
theorem dX1_stirsToRing_23 : decode cX1_stirsToRing 23 = .ok (.invokestatic 92, 3) := by decide +kernel
theorem dX1_stirsToRing_26 : decode cX1_stirsToRing 26 = .ok (.ifCond .eq 6, 3) := by decide +kernel
theorem dX1_stirsToRing_29 : decode cX1_stirsToRing 29 = .ok (.iload 4, 2) := by decide +kernel
theorem dX1_stirsToRing_31 : decode cX1_stirsToRing 31 = .ok (.ireturn, 1) := by decide +kernel
theorem dX1_stirsToRing_32 : decode cX1_stirsToRing 32 = .ok (.iload_n 2, 1) := by decide +kernel
theorem dX1_stirsToRing_33 : decode cX1_stirsToRing 33 = .ok (.iconst 1, 1) := by decide +kernel
theorem dX1_stirsToRing_34 : decode cX1_stirsToRing 34 = .ok (.iload_n 3, 1) := by decide +kernel
theorem dX1_stirsToRing_35 : decode cX1_stirsToRing 35 = .ok (.ishl, 1) := by decide +kernel
theorem dX1_stirsToRing_36 : decode cX1_stirsToRing 36 = .ok (.ior, 1) := by decide +kernel
theorem dX1_stirsToRing_37 : decode cX1_stirsToRing 37 = .ok (.istore_n 2, 1) := by decide +kernel
theorem dX1_stirsToRing_38 : decode cX1_stirsToRing 38 = .ok (.aload_n 0, 1) := by decide +kernel
theorem dX1_stirsToRing_39 : decode cX1_stirsToRing 39 = .ok (.iload_n 3, 1) := by decide +kernel
theorem dX1_stirsToRing_40 : decode cX1_stirsToRing 40 = .ok (.invokevirtual 89, 3) := by decide +kernel
theorem dX1_stirsToRing_43 : decode cX1_stirsToRing 43 = .ok (.istore_n 3, 1) := by decide +kernel
theorem dX1_stirsToRing_44 : decode cX1_stirsToRing 44 = .ok (.iinc 4 1, 3) := by decide +kernel
theorem dX1_stirsToRing_47 : decode cX1_stirsToRing 47 = .ok (.goto (-40), 3) := by decide +kernel
theorem dX1_stirsToRing_50 : decode cX1_stirsToRing 50 = .ok (.bipush 10, 2) := by decide +kernel
theorem dX1_stirsToRing_52 : decode cX1_stirsToRing 52 = .ok (.ireturn, 1) := by decide +kernel
set_option maxRecDepth 20000 in
theorem ggX1_stirsOfRing_X1_stirsToRing : GoodIn wsX1_stirsOfRing wsX1_stirsToRing := goodIn_r _ [5, 6, 7, 8, 9, 10, 11, 12, 13, 4, 14, 15, 20, 21, 22, 23, 24, 25, 26, 27, 28, 29, 30, 31] (by decide +kernel) (by decide +kernel)
set_option maxRecDepth 20000 in
theorem gX1_stirsOfRing_X1_stirsToRing : GoodIn wsX1_stirsOfRing (wsV RX1 96 RX1 yX1_stirsToRing wsX1_stirsToRing) := goodIn_app (goodIn_of _ (by decide +kernel)) ggX1_stirsOfRing_X1_stirsToRing
set_option maxRecDepth 20000 in
theorem ggX1_stirsOfRing_X1_behindStirs : GoodIn wsX1_stirsOfRing wsX1_behindStirs := goodIn_r _ [19, 11, 12, 13, 4, 14, 15, 6, 7, 8, 20, 21, 22, 23, 24, 25, 26, 27, 28, 29, 30, 31] (by decide +kernel) (by decide +kernel)
set_option maxRecDepth 20000 in
theorem gX1_stirsOfRing_X1_behindStirs : GoodIn wsX1_stirsOfRing (wsV RX1 99 RX1 yX1_behindStirs wsX1_behindStirs) := goodIn_app (goodIn_of _ (by decide +kernel)) ggX1_stirsOfRing_X1_behindStirs
theorem dX1_stirsOfRing_0 : decode cX1_stirsOfRing 0 = .ok (.aload_n 0, 1) := by decide +kernel
theorem dX1_stirsOfRing_1 : decode cX1_stirsOfRing 1 = .ok (.iload_n 1, 1) := by decide +kernel
theorem dX1_stirsOfRing_2 : decode cX1_stirsOfRing 2 = .ok (.invokevirtual 96, 3) := by decide +kernel
theorem dX1_stirsOfRing_5 : decode cX1_stirsOfRing 5 = .ok (.istore_n 2, 1) := by decide +kernel
theorem dX1_stirsOfRing_6 : decode cX1_stirsOfRing 6 = .ok (.aload_n 0, 1) := by decide +kernel
theorem dX1_stirsOfRing_7 : decode cX1_stirsOfRing 7 = .ok (.iload_n 1, 1) := by decide +kernel
theorem dX1_stirsOfRing_8 : decode cX1_stirsOfRing 8 = .ok (.iload_n 2, 1) := by decide +kernel
theorem dX1_stirsOfRing_9 : decode cX1_stirsOfRing 9 = .ok (.invokevirtual 99, 3) := by decide +kernel
theorem dX1_stirsOfRing_12 : decode cX1_stirsOfRing 12 = .ok (.istore_n 3, 1) := by decide +kernel
theorem dX1_stirsOfRing_13 : decode cX1_stirsOfRing 13 = .ok (.iconst 0, 1) := by decide +kernel
theorem dX1_stirsOfRing_14 : decode cX1_stirsOfRing 14 = .ok (.istore 4, 2) := by decide +kernel
theorem dX1_stirsOfRing_16 : decode cX1_stirsOfRing 16 = .ok (.iload 4, 2) := by decide +kernel
theorem dX1_stirsOfRing_18 : decode cX1_stirsOfRing 18 = .ok (.iload_n 2, 1) := by decide +kernel
theorem dX1_stirsOfRing_19 : decode cX1_stirsOfRing 19 = .ok (.if_icmp .ge 25, 3) := by decide +kernel
theorem dX1_stirsOfRing_22 : decode cX1_stirsOfRing 22 = .ok (.aload_n 0, 1) := by decide +kernel
theorem dX1_stirsOfRing_23 : decode cX1_stirsOfRing 23 = .ok (.iload_n 1, 1) := by decide +kernel
theorem dX1_stirsOfRing_24 : decode cX1_stirsOfRing 24 = .ok (.iload 4, 2) := by decide +kernel
theorem dX1_stirsOfRing_26 : decode cX1_stirsOfRing 26 = .ok (.invokevirtual 99, 3) := by decide +kernel
theorem dX1_stirsOfRing_29 : decode cX1_stirsOfRing 29 = .ok (.iload_n 3, 1) := by decide +kernel
theorem dX1_stirsOfRing_30 : decode cX1_stirsOfRing 30 = .ok (.if_icmp .ne 8, 3) := by decide +kernel
theorem dX1_stirsOfRing_33 : decode cX1_stirsOfRing 33 = .ok (.iload_n 2, 1) := by decide +kernel
theorem dX1_stirsOfRing_34 : decode cX1_stirsOfRing 34 = .ok (.iload 4, 2) := by decide +kernel
theorem dX1_stirsOfRing_36 : decode cX1_stirsOfRing 36 = .ok (.isub, 1) := by decide +kernel
theorem dX1_stirsOfRing_37 : decode cX1_stirsOfRing 37 = .ok (.ireturn, 1) := by decide +kernel
theorem dX1_stirsOfRing_38 : decode cX1_stirsOfRing 38 = .ok (.iinc 4 1, 3) := by decide +kernel
theorem dX1_stirsOfRing_41 : decode cX1_stirsOfRing 41 = .ok (.goto (-25), 3) := by decide +kernel
theorem dX1_stirsOfRing_44 : decode cX1_stirsOfRing 44 = .ok (.iload_n 2, 1) := by decide +kernel
theorem dX1_stirsOfRing_45 : decode cX1_stirsOfRing 45 = .ok (.ireturn, 1) := by decide +kernel
theorem dX1_sightCount_0 : decode cX1_sightCount 0 = .ok (.aload_n 0, 1) := by decide +kernel
theorem dX1_sightCount_1 : decode cX1_sightCount 1 = .ok (.getfield 49, 3) := by decide +kernel
theorem dX1_sightCount_4 : decode cX1_sightCount 4 = .ok (.ireturn, 1) := by decide +kernel
set_option maxRecDepth 20000 in
theorem ggX1_addSight_X6_within : GoodIn wsX1_addSight wsX6_within := goodIn_r _ [6] (by decide +kernel) (by decide +kernel)
set_option maxRecDepth 20000 in
theorem gX1_addSight_X6_within_n103 : GoodIn wsX1_addSight (wsX6_within) := ggX1_addSight_X6_within
theorem dX1_addSight_0 : decode cX1_addSight 0 = .ok (.aload_n 0, 1) := by decide +kernel
theorem dX1_addSight_1 : decode cX1_addSight 1 = .ok (.getfield 49, 3) := by decide +kernel
theorem dX1_addSight_4 : decode cX1_addSight 4 = .ok (.iconst 0, 1) := by decide +kernel
theorem dX1_addSight_5 : decode cX1_addSight 5 = .ok (.bipush 7, 2) := by decide +kernel
theorem dX1_addSight_7 : decode cX1_addSight 7 = .ok (.invokestatic 103, 3) := by decide +kernel
theorem dX1_addSight_10 : decode cX1_addSight 10 = .ok (.ifCond .ne 5, 3) := by decide +kernel
theorem dX1_addSight_13 : decode cX1_addSight 13 = .ok (.iconst 0, 1) := by decide +kernel
theorem dX1_addSight_14 : decode cX1_addSight 14 = .ok (.ireturn, 1) := by decide +kernel
theorem dX1_addSight_15 : decode cX1_addSight 15 = .ok (.aload_n 0, 1) := by decide +kernel
theorem dX1_addSight_16 : decode cX1_addSight 16 = .ok (.getfield 27, 3) := by decide +kernel
theorem dX1_addSight_19 : decode cX1_addSight 19 = .ok (.aload_n 0, 1) := by decide +kernel
theorem dX1_addSight_20 : decode cX1_addSight 20 = .ok (.getfield 49, 3) := by decide +kernel
theorem dX1_addSight_23 : decode cX1_addSight 23 = .ok (.iload_n 1, 1) := by decide +kernel
theorem dX1_addSight_24 : decode cX1_addSight 24 = .ok (.iastore, 1) := by decide +kernel
theorem dX1_addSight_25 : decode cX1_addSight 25 = .ok (.aload_n 0, 1) := by decide +kernel
theorem dX1_addSight_26 : decode cX1_addSight 26 = .ok (.getfield 30, 3) := by decide +kernel
theorem dX1_addSight_29 : decode cX1_addSight 29 = .ok (.aload_n 0, 1) := by decide +kernel
theorem dX1_addSight_30 : decode cX1_addSight 30 = .ok (.getfield 49, 3) := by decide +kernel
theorem dX1_addSight_33 : decode cX1_addSight 33 = .ok (.iload_n 2, 1) := by decide +kernel
theorem dX1_addSight_34 : decode cX1_addSight 34 = .ok (.iastore, 1) := by decide +kernel
theorem dX1_addSight_35 : decode cX1_addSight 35 = .ok (.aload_n 0, 1) := by decide +kernel
theorem dX1_addSight_36 : decode cX1_addSight 36 = .ok (.dup, 1) := by decide +kernel
theorem dX1_addSight_37 : decode cX1_addSight 37 = .ok (.getfield 49, 3) := by decide +kernel
theorem dX1_addSight_40 : decode cX1_addSight 40 = .ok (.iconst 1, 1) := by decide +kernel
theorem dX1_addSight_41 : decode cX1_addSight 41 = .ok (.iadd, 1) := by decide +kernel
theorem dX1_addSight_42 : decode cX1_addSight 42 = .ok (.putfield 49, 3) := by decide +kernel
theorem dX1_addSight_45 : decode cX1_addSight 45 = .ok (.iconst 1, 1) := by decide +kernel
theorem dX1_addSight_46 : decode cX1_addSight 46 = .ok (.ireturn, 1) := by decide +kernel
theorem dX1_dropSights_0 : decode cX1_dropSights 0 = .ok (.aload_n 0, 1) := by decide +kernel
theorem dX1_dropSights_1 : decode cX1_dropSights 1 = .ok (.iconst 0, 1) := by decide +kernel
theorem dX1_dropSights_2 : decode cX1_dropSights 2 = .ok (.putfield 49, 3) := by decide +kernel
theorem dX1_dropSights_5 : decode cX1_dropSights 5 = .ok (.return_, 1) := by decide +kernel
set_option maxRecDepth 20000 in
theorem ggX1_sightBed_X6_within : GoodIn wsX1_sightBed wsX6_within := goodIn_r _ [4] (by decide +kernel) (by decide +kernel)
set_option maxRecDepth 20000 in
theorem gX1_sightBed_X6_within_n103 : GoodIn wsX1_sightBed (wsX6_within) := ggX1_sightBed_X6_within
theorem dX1_sightBed_0 : decode cX1_sightBed 0 = .ok (.iload_n 1, 1) := by decide +kernel
theorem dX1_sightBed_1 : decode cX1_sightBed 1 = .ok (.iconst 0, 1) := by decide +kernel
theorem dX1_sightBed_2 : decode cX1_sightBed 2 = .ok (.bipush 7, 2) := by decide +kernel
theorem dX1_sightBed_4 : decode cX1_sightBed 4 = .ok (.invokestatic 103, 3) := by decide +kernel
theorem dX1_sightBed_7 : decode cX1_sightBed 7 = .ok (.ifCond .eq 12, 3) := by decide +kernel
theorem dX1_sightBed_10 : decode cX1_sightBed 10 = .ok (.aload_n 0, 1) := by decide +kernel
theorem dX1_sightBed_11 : decode cX1_sightBed 11 = .ok (.getfield 27, 3) := by decide +kernel
theorem dX1_sightBed_14 : decode cX1_sightBed 14 = .ok (.iload_n 1, 1) := by decide +kernel
theorem dX1_sightBed_15 : decode cX1_sightBed 15 = .ok (.iaload, 1) := by decide +kernel
theorem dX1_sightBed_16 : decode cX1_sightBed 16 = .ok (.goto 5, 3) := by decide +kernel
theorem dX1_sightBed_19 : decode cX1_sightBed 19 = .ok (.bipush (-6), 2) := by decide +kernel
theorem dX1_sightBed_21 : decode cX1_sightBed 21 = .ok (.ireturn, 1) := by decide +kernel
set_option maxRecDepth 20000 in
theorem ggX1_sightTale_X6_within : GoodIn wsX1_sightTale wsX6_within := goodIn_r _ [4] (by decide +kernel) (by decide +kernel)
set_option maxRecDepth 20000 in
theorem gX1_sightTale_X6_within_n103 : GoodIn wsX1_sightTale (wsX6_within) := ggX1_sightTale_X6_within
theorem dX1_sightTale_0 : decode cX1_sightTale 0 = .ok (.iload_n 1, 1) := by decide +kernel
theorem dX1_sightTale_1 : decode cX1_sightTale 1 = .ok (.iconst 0, 1) := by decide +kernel
theorem dX1_sightTale_2 : decode cX1_sightTale 2 = .ok (.bipush 7, 2) := by decide +kernel
theorem dX1_sightTale_4 : decode cX1_sightTale 4 = .ok (.invokestatic 103, 3) := by decide +kernel
theorem dX1_sightTale_7 : decode cX1_sightTale 7 = .ok (.ifCond .eq 12, 3) := by decide +kernel
theorem dX1_sightTale_10 : decode cX1_sightTale 10 = .ok (.aload_n 0, 1) := by decide +kernel
theorem dX1_sightTale_11 : decode cX1_sightTale 11 = .ok (.getfield 30, 3) := by decide +kernel
theorem dX1_sightTale_14 : decode cX1_sightTale 14 = .ok (.iload_n 1, 1) := by decide +kernel
theorem dX1_sightTale_15 : decode cX1_sightTale 15 = .ok (.iaload, 1) := by decide +kernel
theorem dX1_sightTale_16 : decode cX1_sightTale 16 = .ok (.goto 5, 3) := by decide +kernel
theorem dX1_sightTale_19 : decode cX1_sightTale 19 = .ok (.bipush (-6), 2) := by decide +kernel
theorem dX1_sightTale_21 : decode cX1_sightTale 21 = .ok (.ireturn, 1) := by decide +kernel
set_option maxRecDepth 20000 in
theorem ggX1_reasonAgainst_X1_longBetween : GoodIn wsX1_reasonAgainst wsX1_longBetween := goodIn_r _ [8, 9, 10, 11, 12, 13, 14, 15, 16, 17, 18, 19, 20, 21, 22, 23, 24] (by decide +kernel) (by decide +kernel)
set_option maxRecDepth 20000 in
theorem gX1_reasonAgainst_X1_longBetween : GoodIn wsX1_reasonAgainst (wsV RX1 107 RX1 yX1_longBetween wsX1_longBetween) := goodIn_app (goodIn_of _ (by decide +kernel)) ggX1_reasonAgainst_X1_longBetween
theorem dX1_reasonAgainst_0 : decode cX1_reasonAgainst 0 = .ok (.iload_n 1, 1) := by decide +kernel
theorem dX1_reasonAgainst_1 : decode cX1_reasonAgainst 1 = .ok (.tableswitch 101 0 3 #[31, 46, 64, 88], 31) := by decide +kernel
theorem dX1_reasonAgainst_32 : decode cX1_reasonAgainst 32 = .ok (.aload_n 0, 1) := by decide +kernel
theorem dX1_reasonAgainst_33 : decode cX1_reasonAgainst 33 = .ok (.getfield 33, 3) := by decide +kernel
theorem dX1_reasonAgainst_36 : decode cX1_reasonAgainst 36 = .ok (.bipush 10, 2) := by decide +kernel
theorem dX1_reasonAgainst_38 : decode cX1_reasonAgainst 38 = .ok (.if_icmp .ne 7, 3) := by decide +kernel
theorem dX1_reasonAgainst_41 : decode cX1_reasonAgainst 41 = .ok (.iconst 0, 1) := by decide +kernel
theorem dX1_reasonAgainst_42 : decode cX1_reasonAgainst 42 = .ok (.goto 4, 3) := by decide +kernel
theorem dX1_reasonAgainst_45 : decode cX1_reasonAgainst 45 = .ok (.iconst 1, 1) := by decide +kernel
theorem dX1_reasonAgainst_46 : decode cX1_reasonAgainst 46 = .ok (.ireturn, 1) := by decide +kernel
theorem dX1_reasonAgainst_47 : decode cX1_reasonAgainst 47 = .ok (.aload_n 0, 1) := by decide +kernel
theorem dX1_reasonAgainst_48 : decode cX1_reasonAgainst 48 = .ok (.aload_n 0, 1) := by decide +kernel
theorem dX1_reasonAgainst_49 : decode cX1_reasonAgainst 49 = .ok (.getfield 33, 3) := by decide +kernel
theorem dX1_reasonAgainst_52 : decode cX1_reasonAgainst 52 = .ok (.iload_n 2, 1) := by decide +kernel
theorem dX1_reasonAgainst_53 : decode cX1_reasonAgainst 53 = .ok (.invokevirtual 107, 3) := by decide +kernel
theorem dX1_reasonAgainst_56 : decode cX1_reasonAgainst 56 = .ok (.ifCond .le 7, 3) := by decide +kernel
theorem dX1_reasonAgainst_59 : decode cX1_reasonAgainst 59 = .ok (.iconst 0, 1) := by decide +kernel
theorem dX1_reasonAgainst_60 : decode cX1_reasonAgainst 60 = .ok (.goto 4, 3) := by decide +kernel
theorem dX1_reasonAgainst_63 : decode cX1_reasonAgainst 63 = .ok (.iconst 2, 1) := by decide +kernel
theorem dX1_reasonAgainst_64 : decode cX1_reasonAgainst 64 = .ok (.ireturn, 1) := by decide +kernel
theorem dX1_reasonAgainst_65 : decode cX1_reasonAgainst 65 = .ok (.aload_n 0, 1) := by decide +kernel
theorem dX1_reasonAgainst_66 : decode cX1_reasonAgainst 66 = .ok (.getfield 33, 3) := by decide +kernel
theorem dX1_reasonAgainst_69 : decode cX1_reasonAgainst 69 = .ok (.bipush 10, 2) := by decide +kernel
theorem dX1_reasonAgainst_71 : decode cX1_reasonAgainst 71 = .ok (.if_icmp .ne 5, 3) := by decide +kernel
theorem dX1_reasonAgainst_74 : decode cX1_reasonAgainst 74 = .ok (.iconst 1, 1) := by decide +kernel
theorem dX1_reasonAgainst_75 : decode cX1_reasonAgainst 75 = .ok (.ireturn, 1) := by decide +kernel
theorem dX1_reasonAgainst_76 : decode cX1_reasonAgainst 76 = .ok (.aload_n 0, 1) := by decide +kernel
theorem dX1_reasonAgainst_77 : decode cX1_reasonAgainst 77 = .ok (.getfield 52, 3) := by decide +kernel
theorem dX1_reasonAgainst_80 : decode cX1_reasonAgainst 80 = .ok (.ifCond .le 7, 3) := by decide +kernel
theorem dX1_reasonAgainst_83 : decode cX1_reasonAgainst 83 = .ok (.iconst 0, 1) := by decide +kernel
theorem dX1_reasonAgainst_84 : decode cX1_reasonAgainst 84 = .ok (.goto 4, 3) := by decide +kernel
theorem dX1_reasonAgainst_87 : decode cX1_reasonAgainst 87 = .ok (.iconst 3, 1) := by decide +kernel
theorem dX1_reasonAgainst_88 : decode cX1_reasonAgainst 88 = .ok (.ireturn, 1) := by decide +kernel
theorem dX1_reasonAgainst_89 : decode cX1_reasonAgainst 89 = .ok (.aload_n 0, 1) := by decide +kernel
theorem dX1_reasonAgainst_90 : decode cX1_reasonAgainst 90 = .ok (.getfield 52, 3) := by decide +kernel
theorem dX1_reasonAgainst_93 : decode cX1_reasonAgainst 93 = .ok (.ifCond .le 7, 3) := by decide +kernel
theorem dX1_reasonAgainst_96 : decode cX1_reasonAgainst 96 = .ok (.iconst 0, 1) := by decide +kernel
theorem dX1_reasonAgainst_97 : decode cX1_reasonAgainst 97 = .ok (.goto 4, 3) := by decide +kernel
theorem dX1_reasonAgainst_100 : decode cX1_reasonAgainst 100 = .ok (.iconst 3, 1) := by decide +kernel
theorem dX1_reasonAgainst_101 : decode cX1_reasonAgainst 101 = .ok (.ireturn, 1) := by decide +kernel
theorem dX1_reasonAgainst_102 : decode cX1_reasonAgainst 102 = .ok (.aload_n 0, 1) := by decide +kernel
theorem dX1_reasonAgainst_103 : decode cX1_reasonAgainst 103 = .ok (.getfield 58, 3) := by decide +kernel
theorem dX1_reasonAgainst_106 : decode cX1_reasonAgainst 106 = .ok (.bipush 99, 2) := by decide +kernel
theorem dX1_reasonAgainst_108 : decode cX1_reasonAgainst 108 = .ok (.if_icmp .ge 7, 3) := by decide +kernel
theorem dX1_reasonAgainst_111 : decode cX1_reasonAgainst 111 = .ok (.iconst 0, 1) := by decide +kernel
theorem dX1_reasonAgainst_112 : decode cX1_reasonAgainst 112 = .ok (.goto 4, 3) := by decide +kernel
theorem dX1_reasonAgainst_115 : decode cX1_reasonAgainst 115 = .ok (.iconst 4, 1) := by decide +kernel
theorem dX1_reasonAgainst_116 : decode cX1_reasonAgainst 116 = .ok (.ireturn, 1) := by decide +kernel
set_option maxRecDepth 20000 in
theorem ggX1_act_X1_longBetween : GoodIn wsX1_act wsX1_longBetween := goodIn_r _ [17, 18, 19, 20, 21, 61, 62, 63, 64, 65, 66, 67, 68, 69, 70, 71, 72] (by decide +kernel) (by decide +kernel)
set_option maxRecDepth 20000 in
theorem gX1_act_X1_longBetween : GoodIn wsX1_act (wsV RX1 107 RX1 yX1_longBetween wsX1_longBetween) := goodIn_app (goodIn_of _ (by decide +kernel)) ggX1_act_X1_longBetween
set_option maxRecDepth 20000 in
theorem ggX1_act_X1_warmBed : GoodIn wsX1_act wsX1_warmBed := goodIn_r _ [25, 2, 4, 5, 6, 7, 1, 8, 9, 10, 26, 27, 28, 16, 29, 12, 30, 20, 31, 32, 33, 34, 35, 36, 37, 38, 39, 40, 41, 42, 43, 44, 45, 46, 47, 48, 49, 61, 62, 63, 64, 65, 66, 67, 68, 69, 70, 71, 72] (by decide +kernel) (by decide +kernel)
set_option maxRecDepth 20000 in
theorem gX1_act_X1_warmBed : GoodIn wsX1_act (wsV RX1 115 RX1 yX1_warmBed wsX1_warmBed) := goodIn_app (goodIn_of _ (by decide +kernel)) ggX1_act_X1_warmBed
set_option maxRecDepth 20000 in
theorem ggX1_act_X1_fadesInto : GoodIn wsX1_act wsX1_fadesInto := goodIn_r _ [53, 54, 55, 20, 56, 61, 62, 63, 64, 65, 66, 67, 68, 69, 70, 71, 72] (by decide +kernel) (by decide +kernel)
set_option maxRecDepth 20000 in
theorem gX1_act_X1_fadesInto : GoodIn wsX1_act (wsV RX1 89 RX1 yX1_fadesInto wsX1_fadesInto) := goodIn_app (goodIn_of _ (by decide +kernel)) ggX1_act_X1_fadesInto
set_option maxRecDepth 20000 in
theorem ggX1_act_J7_fill_53178 : GoodIn wsX1_act wsJ7_fill_53178 := goodIn_r _ [60] (by decide +kernel) (by decide +kernel)
set_option maxRecDepth 20000 in
theorem gX1_act_J7_fill_53178 : GoodIn wsX1_act (va_wsS RX1 37 yJ7_fill_53178 wsJ7_fill_53178) := goodIn_app (goodIn_of _ (by decide +kernel)) ggX1_act_J7_fill_53178
theorem dX1_act_0 : decode cX1_act 0 = .ok (.iload_n 1, 1) := by decide +kernel
theorem dX1_act_1 : decode cX1_act 1 = .ok (.tableswitch 116 0 3 #[31, 44, 74, 85], 31) := by decide +kernel
theorem dX1_act_32 : decode cX1_act 32 = .ok (.aload_n 0, 1) := by decide +kernel
theorem dX1_act_33 : decode cX1_act 33 = .ok (.iload_n 2, 1) := by decide +kernel
theorem dX1_act_34 : decode cX1_act 34 = .ok (.putfield 55, 3) := by decide +kernel
theorem dX1_act_37 : decode cX1_act 37 = .ok (.aload_n 0, 1) := by decide +kernel
theorem dX1_act_38 : decode cX1_act 38 = .ok (.iload_n 3, 1) := by decide +kernel
theorem dX1_act_39 : decode cX1_act 39 = .ok (.putfield 52, 3) := by decide +kernel
theorem dX1_act_42 : decode cX1_act 42 = .ok (.goto 104, 3) := by decide +kernel
theorem dX1_act_45 : decode cX1_act 45 = .ok (.aload_n 0, 1) := by decide +kernel
theorem dX1_act_46 : decode cX1_act 46 = .ok (.iconst 0, 1) := by decide +kernel
theorem dX1_act_47 : decode cX1_act 47 = .ok (.aload_n 0, 1) := by decide +kernel
theorem dX1_act_48 : decode cX1_act 48 = .ok (.getfield 52, 3) := by decide +kernel
theorem dX1_act_51 : decode cX1_act 51 = .ok (.aload_n 0, 1) := by decide +kernel
theorem dX1_act_52 : decode cX1_act 52 = .ok (.aload_n 0, 1) := by decide +kernel
theorem dX1_act_53 : decode cX1_act 53 = .ok (.getfield 33, 3) := by decide +kernel
theorem dX1_act_56 : decode cX1_act 56 = .ok (.iload_n 2, 1) := by decide +kernel
theorem dX1_act_57 : decode cX1_act 57 = .ok (.invokevirtual 107, 3) := by decide +kernel
theorem dX1_act_60 : decode cX1_act 60 = .ok (.isub, 1) := by decide +kernel
theorem dX1_act_61 : decode cX1_act 61 = .ok (.invokestatic 110, 3) := by decide +kernel
theorem dX1_act_64 : decode cX1_act 64 = .ok (.putfield 52, 3) := by decide +kernel
theorem dX1_act_67 : decode cX1_act 67 = .ok (.aload_n 0, 1) := by decide +kernel
theorem dX1_act_68 : decode cX1_act 68 = .ok (.iload_n 2, 1) := by decide +kernel
theorem dX1_act_69 : decode cX1_act 69 = .ok (.putfield 33, 3) := by decide +kernel
theorem dX1_act_72 : decode cX1_act 72 = .ok (.goto 74, 3) := by decide +kernel
theorem dX1_act_75 : decode cX1_act 75 = .ok (.aload_n 0, 1) := by decide +kernel
theorem dX1_act_76 : decode cX1_act 76 = .ok (.aload_n 0, 1) := by decide +kernel
theorem dX1_act_77 : decode cX1_act 77 = .ok (.getfield 33, 3) := by decide +kernel
theorem dX1_act_80 : decode cX1_act 80 = .ok (.invokevirtual 115, 3) := by decide +kernel
theorem dX1_act_83 : decode cX1_act 83 = .ok (.goto 63, 3) := by decide +kernel
theorem dX1_act_86 : decode cX1_act 86 = .ok (.aload_n 0, 1) := by decide +kernel
theorem dX1_act_87 : decode cX1_act 87 = .ok (.bipush 99, 2) := by decide +kernel
theorem dX1_act_89 : decode cX1_act 89 = .ok (.aload_n 0, 1) := by decide +kernel
theorem dX1_act_90 : decode cX1_act 90 = .ok (.getfield 52, 3) := by decide +kernel
theorem dX1_act_93 : decode cX1_act 93 = .ok (.bipush 10, 2) := by decide +kernel
theorem dX1_act_95 : decode cX1_act 95 = .ok (.iadd, 1) := by decide +kernel
theorem dX1_act_96 : decode cX1_act 96 = .ok (.invokestatic 119, 3) := by decide +kernel
theorem dX1_act_99 : decode cX1_act 99 = .ok (.putfield 52, 3) := by decide +kernel
theorem dX1_act_102 : decode cX1_act 102 = .ok (.aload_n 0, 1) := by decide +kernel
theorem dX1_act_103 : decode cX1_act 103 = .ok (.aload_n 0, 1) := by decide +kernel
theorem dX1_act_104 : decode cX1_act 104 = .ok (.aload_n 0, 1) := by decide +kernel
theorem dX1_act_105 : decode cX1_act 105 = .ok (.getfield 55, 3) := by decide +kernel
theorem dX1_act_108 : decode cX1_act 108 = .ok (.invokevirtual 89, 3) := by decide +kernel
theorem dX1_act_111 : decode cX1_act 111 = .ok (.putfield 55, 3) := by decide +kernel
theorem dX1_act_114 : decode cX1_act 114 = .ok (.goto 32, 3) := by decide +kernel
theorem dX1_act_117 : decode cX1_act 117 = .ok (.aload_n 0, 1) := by decide +kernel
theorem dX1_act_118 : decode cX1_act 118 = .ok (.bipush 10, 2) := by decide +kernel
theorem dX1_act_120 : decode cX1_act 120 = .ok (.putfield 33, 3) := by decide +kernel
theorem dX1_act_123 : decode cX1_act 123 = .ok (.aload_n 0, 1) := by decide +kernel
theorem dX1_act_124 : decode cX1_act 124 = .ok (.iconst 0, 1) := by decide +kernel
theorem dX1_act_125 : decode cX1_act 125 = .ok (.putfield 52, 3) := by decide +kernel
theorem dX1_act_128 : decode cX1_act 128 = .ok (.aload_n 0, 1) := by decide +kernel
theorem dX1_act_129 : decode cX1_act 129 = .ok (.dup, 1) := by decide +kernel
theorem dX1_act_130 : decode cX1_act 130 = .ok (.getfield 58, 3) := by decide +kernel
theorem dX1_act_133 : decode cX1_act 133 = .ok (.iconst 1, 1) := by decide +kernel
theorem dX1_act_134 : decode cX1_act 134 = .ok (.iadd, 1) := by decide +kernel
theorem dX1_act_135 : decode cX1_act 135 = .ok (.putfield 58, 3) := by decide +kernel
theorem dX1_act_138 : decode cX1_act 138 = .ok (.aload_n 0, 1) := by decide +kernel
theorem dX1_act_139 : decode cX1_act 139 = .ok (.getfield 18, 3) := by decide +kernel
theorem dX1_act_142 : decode cX1_act 142 = .ok (.iconst 0, 1) := by decide +kernel
theorem dX1_act_143 : decode cX1_act 143 = .ok (.invokestatic 37, 3) := by decide +kernel
theorem dX1_act_146 : decode cX1_act 146 = .ok (.return_, 1) := by decide +kernel
set_option maxRecDepth 20000 in
theorem ggX1_warmBed_X1_isDamp : GoodIn wsX1_warmBed wsX1_isDamp := goodIn_r _ [14, 15, 16, 17, 18, 37, 38, 39, 40, 41, 42, 43, 44, 45, 46, 47, 48] (by decide +kernel) (by decide +kernel)
set_option maxRecDepth 20000 in
theorem gX1_warmBed_X1_isDamp : GoodIn wsX1_warmBed (wsV RX1 75 RX1 yX1_isDamp wsX1_isDamp) := goodIn_app (goodIn_of _ (by decide +kernel)) ggX1_warmBed_X1_isDamp
set_option maxRecDepth 20000 in
theorem ggX1_warmBed_X1_isConvinced : GoodIn wsX1_warmBed wsX1_isConvinced := goodIn_r _ [22, 23, 16, 17, 18, 37, 38, 39, 40, 41, 42, 43, 44, 45, 46, 47, 48] (by decide +kernel) (by decide +kernel)
set_option maxRecDepth 20000 in
theorem gX1_warmBed_X1_isConvinced : GoodIn wsX1_warmBed (wsV RX1 122 RX1 yX1_isConvinced wsX1_isConvinced) := goodIn_app (goodIn_of _ (by decide +kernel)) ggX1_warmBed_X1_isConvinced
set_option maxRecDepth 20000 in
theorem ggX1_warmBed_X1_convince : GoodIn wsX1_warmBed wsX1_convince := goodIn_r _ [27, 28, 16, 17, 18, 37, 38, 39, 40, 41, 42, 43, 44, 45, 46, 47, 48] (by decide +kernel) (by decide +kernel)
set_option maxRecDepth 20000 in
theorem gX1_warmBed_X1_convince : GoodIn wsX1_warmBed (wsV RX1 125 RX1 yX1_convince wsX1_convince) := goodIn_app (goodIn_of _ (by decide +kernel)) ggX1_warmBed_X1_convince
set_option maxRecDepth 20000 in
theorem ggX1_warmBed_X1_doubtOf : GoodIn wsX1_warmBed wsX1_doubtOf := goodIn_r _ [32, 23, 16, 17, 18, 37, 38, 39, 40, 41, 42, 43, 44, 45, 46, 47, 48] (by decide +kernel) (by decide +kernel)
set_option maxRecDepth 20000 in
theorem gX1_warmBed_X1_doubtOf : GoodIn wsX1_warmBed (wsV RX1 72 RX1 yX1_doubtOf wsX1_doubtOf) := goodIn_app (goodIn_of _ (by decide +kernel)) ggX1_warmBed_X1_doubtOf
set_option maxRecDepth 20000 in
theorem ggX1_warmBed_X1_furnish : GoodIn wsX1_warmBed wsX1_furnish := goodIn_r _ [36, 23, 15, 16, 17, 18, 37, 38, 39, 40, 41, 42, 43, 44, 45, 46, 47, 48] (by decide +kernel) (by decide +kernel)
set_option maxRecDepth 20000 in
theorem gX1_warmBed_X1_furnish : GoodIn wsX1_warmBed (wsV RX1 129 RX1 yX1_furnish wsX1_furnish) := goodIn_app (goodIn_of _ (by decide +kernel)) ggX1_warmBed_X1_furnish
theorem dX1_warmBed_0 : decode cX1_warmBed 0 = .ok (.aload_n 0, 1) := by decide +kernel
theorem dX1_warmBed_1 : decode cX1_warmBed 1 = .ok (.iload_n 1, 1) := by decide +kernel
theorem dX1_warmBed_2 : decode cX1_warmBed 2 = .ok (.invokevirtual 75, 3) := by decide +kernel
theorem dX1_warmBed_5 : decode cX1_warmBed 5 = .ok (.ifCond .eq 19, 3) := by decide +kernel
theorem dX1_warmBed_8 : decode cX1_warmBed 8 = .ok (.aload_n 0, 1) := by decide +kernel
theorem dX1_warmBed_9 : decode cX1_warmBed 9 = .ok (.iconst 0, 1) := by decide +kernel
theorem dX1_warmBed_10 : decode cX1_warmBed 10 = .ok (.aload_n 0, 1) := by decide +kernel
theorem dX1_warmBed_11 : decode cX1_warmBed 11 = .ok (.getfield 52, 3) := by decide +kernel
theorem dX1_warmBed_14 : decode cX1_warmBed 14 = .ok (.bipush 10, 2) := by decide +kernel
theorem dX1_warmBed_16 : decode cX1_warmBed 16 = .ok (.isub, 1) := by decide +kernel
theorem dX1_warmBed_17 : decode cX1_warmBed 17 = .ok (.invokestatic 110, 3) := by decide +kernel
theorem dX1_warmBed_20 : decode cX1_warmBed 20 = .ok (.putfield 52, 3) := by decide +kernel
theorem dX1_warmBed_23 : decode cX1_warmBed 23 = .ok (.return_, 1) := by decide +kernel
theorem dX1_warmBed_24 : decode cX1_warmBed 24 = .ok (.aload_n 0, 1) := by decide +kernel
theorem dX1_warmBed_25 : decode cX1_warmBed 25 = .ok (.iload_n 1, 1) := by decide +kernel
theorem dX1_warmBed_26 : decode cX1_warmBed 26 = .ok (.aload_n 0, 1) := by decide +kernel
theorem dX1_warmBed_27 : decode cX1_warmBed 27 = .ok (.getfield 52, 3) := by decide +kernel
theorem dX1_warmBed_30 : decode cX1_warmBed 30 = .ok (.invokevirtual 122, 3) := by decide +kernel
theorem dX1_warmBed_33 : decode cX1_warmBed 33 = .ok (.ifCond .eq 15, 3) := by decide +kernel
theorem dX1_warmBed_36 : decode cX1_warmBed 36 = .ok (.aload_n 0, 1) := by decide +kernel
theorem dX1_warmBed_37 : decode cX1_warmBed 37 = .ok (.iload_n 1, 1) := by decide +kernel
theorem dX1_warmBed_38 : decode cX1_warmBed 38 = .ok (.aload_n 0, 1) := by decide +kernel
theorem dX1_warmBed_39 : decode cX1_warmBed 39 = .ok (.getfield 55, 3) := by decide +kernel
theorem dX1_warmBed_42 : decode cX1_warmBed 42 = .ok (.invokevirtual 125, 3) := by decide +kernel
theorem dX1_warmBed_45 : decode cX1_warmBed 45 = .ok (.goto 21, 3) := by decide +kernel
theorem dX1_warmBed_48 : decode cX1_warmBed 48 = .ok (.aload_n 0, 1) := by decide +kernel
theorem dX1_warmBed_49 : decode cX1_warmBed 49 = .ok (.iload_n 1, 1) := by decide +kernel
theorem dX1_warmBed_50 : decode cX1_warmBed 50 = .ok (.bipush 9, 2) := by decide +kernel
theorem dX1_warmBed_52 : decode cX1_warmBed 52 = .ok (.aload_n 0, 1) := by decide +kernel
theorem dX1_warmBed_53 : decode cX1_warmBed 53 = .ok (.iload_n 1, 1) := by decide +kernel
theorem dX1_warmBed_54 : decode cX1_warmBed 54 = .ok (.invokevirtual 72, 3) := by decide +kernel
theorem dX1_warmBed_57 : decode cX1_warmBed 57 = .ok (.iconst 1, 1) := by decide +kernel
theorem dX1_warmBed_58 : decode cX1_warmBed 58 = .ok (.iadd, 1) := by decide +kernel
theorem dX1_warmBed_59 : decode cX1_warmBed 59 = .ok (.invokestatic 119, 3) := by decide +kernel
theorem dX1_warmBed_62 : decode cX1_warmBed 62 = .ok (.iconst 0, 1) := by decide +kernel
theorem dX1_warmBed_63 : decode cX1_warmBed 63 = .ok (.invokevirtual 129, 3) := by decide +kernel
theorem dX1_warmBed_66 : decode cX1_warmBed 66 = .ok (.aload_n 0, 1) := by decide +kernel
theorem dX1_warmBed_67 : decode cX1_warmBed 67 = .ok (.iconst 0, 1) := by decide +kernel
theorem dX1_warmBed_68 : decode cX1_warmBed 68 = .ok (.aload_n 0, 1) := by decide +kernel
theorem dX1_warmBed_69 : decode cX1_warmBed 69 = .ok (.getfield 52, 3) := by decide +kernel
theorem dX1_warmBed_72 : decode cX1_warmBed 72 = .ok (.iconst 5, 1) := by decide +kernel
theorem dX1_warmBed_73 : decode cX1_warmBed 73 = .ok (.isub, 1) := by decide +kernel
theorem dX1_warmBed_74 : decode cX1_warmBed 74 = .ok (.invokestatic 110, 3) := by decide +kernel
theorem dX1_warmBed_77 : decode cX1_warmBed 77 = .ok (.putfield 52, 3) := by decide +kernel
theorem dX1_warmBed_80 : decode cX1_warmBed 80 = .ok (.return_, 1) := by decide +kernel
set_option maxRecDepth 20000 in
theorem ggX1_isConvinced_X6_isHouse : GoodIn wsX1_isConvinced wsX6_isHouse := goodIn_r _ [4] (by decide +kernel) (by decide +kernel)
set_option maxRecDepth 20000 in
theorem gX1_isConvinced_X6_isHouse_n65 : GoodIn wsX1_isConvinced (wsX6_isHouse) := ggX1_isConvinced_X6_isHouse
theorem dX1_isConvinced_0 : decode cX1_isConvinced 0 = .ok (.iload_n 1, 1) := by decide +kernel
theorem dX1_isConvinced_1 : decode cX1_isConvinced 1 = .ok (.invokestatic 65, 3) := by decide +kernel
theorem dX1_isConvinced_4 : decode cX1_isConvinced 4 = .ok (.ifCond .eq 20, 3) := by decide +kernel
theorem dX1_isConvinced_7 : decode cX1_isConvinced 7 = .ok (.iload_n 2, 1) := by decide +kernel
theorem dX1_isConvinced_8 : decode cX1_isConvinced 8 = .ok (.bipush 9, 2) := by decide +kernel
theorem dX1_isConvinced_10 : decode cX1_isConvinced 10 = .ok (.aload_n 0, 1) := by decide +kernel
theorem dX1_isConvinced_11 : decode cX1_isConvinced 11 = .ok (.getfield 15, 3) := by decide +kernel
theorem dX1_isConvinced_14 : decode cX1_isConvinced 14 = .ok (.iload_n 1, 1) := by decide +kernel
theorem dX1_isConvinced_15 : decode cX1_isConvinced 15 = .ok (.iaload, 1) := by decide +kernel
theorem dX1_isConvinced_16 : decode cX1_isConvinced 16 = .ok (.imul, 1) := by decide +kernel
theorem dX1_isConvinced_17 : decode cX1_isConvinced 17 = .ok (.if_icmp .le 7, 3) := by decide +kernel
theorem dX1_isConvinced_20 : decode cX1_isConvinced 20 = .ok (.iconst 1, 1) := by decide +kernel
theorem dX1_isConvinced_21 : decode cX1_isConvinced 21 = .ok (.goto 4, 3) := by decide +kernel
theorem dX1_isConvinced_24 : decode cX1_isConvinced 24 = .ok (.iconst 0, 1) := by decide +kernel
theorem dX1_isConvinced_25 : decode cX1_isConvinced 25 = .ok (.ireturn, 1) := by decide +kernel
theorem dX2_init_0 : decode cX2_init 0 = .ok (.aload_n 0, 1) := by decide +kernel
theorem dX2_init_1 : decode cX2_init 1 = .ok (.invokespecial 3, 3) := by decide +kernel
theorem dX2_init_4 : decode cX2_init 4 = .ok (.return_, 1) := by decide +kernel
set_option maxRecDepth 20000 in
theorem ggX2_pass_X3_faultPlace : GoodIn wsX2_pass wsX3_faultPlace := goodIn_r _ [11, 12, 13, 14, 15, 10, 16, 17, 18, 19, 20, 21, 22, 23, 24, 25, 26, 27, 28, 29, 30, 31, 32, 140, 141] (by decide +kernel) (by decide +kernel)
set_option maxRecDepth 20000 in
theorem gX2_pass_X3_faultPlace : GoodIn wsX2_pass (wsV RX2 30 RX3 yX3_faultPlace wsX3_faultPlace) := goodIn_app (goodIn_of _ (by decide +kernel)) ggX2_pass_X3_faultPlace
set_option maxRecDepth 20000 in
theorem ggX2_pass_X1_copyFrom : GoodIn wsX2_pass wsX1_copyFrom := goodIn_r _ [37, 38, 39, 40, 41, 42, 43, 44, 45, 46, 47, 48, 49, 50, 51, 52, 53, 142, 143, 144, 145, 146, 147, 148, 149, 150, 151, 152, 153] (by decide +kernel) (by decide +kernel)
set_option maxRecDepth 20000 in
theorem gX2_pass_X1_copyFrom : GoodIn wsX2_pass (wsV RX2 36 RX1 yX1_copyFrom wsX1_copyFrom) := goodIn_app (goodIn_of _ (by decide +kernel)) ggX2_pass_X1_copyFrom
set_option maxRecDepth 20000 in
theorem ggX2_pass_X3_size : GoodIn wsX2_pass wsX3_size := goodIn_r _ [57, 12, 140, 141] (by decide +kernel) (by decide +kernel)
set_option maxRecDepth 20000 in
theorem gX2_pass_X3_size : GoodIn wsX2_pass (wsV RX2 42 RX3 yX3_size wsX3_size) := goodIn_app (goodIn_of _ (by decide +kernel)) ggX2_pass_X3_size
set_option maxRecDepth 20000 in
theorem ggX2_pass_X3_kindAt : GoodIn wsX2_pass wsX3_kindAt := goodIn_r _ [16, 17, 18, 19, 10, 20, 12, 21, 22, 23, 24, 25, 26, 27, 28, 140, 141] (by decide +kernel) (by decide +kernel)
set_option maxRecDepth 20000 in
theorem gX2_pass_X3_kindAt : GoodIn wsX2_pass (wsV RX2 45 RX3 yX3_kindAt wsX3_kindAt) := goodIn_app (goodIn_of _ (by decide +kernel)) ggX2_pass_X3_kindAt
set_option maxRecDepth 20000 in
theorem ggX2_pass_X3_whatAt : GoodIn wsX2_pass wsX3_whatAt := goodIn_r _ [62, 13, 14, 15, 10, 16, 17, 18, 19, 20, 12, 21, 22, 23, 24, 25, 26, 27, 28, 29, 30, 31, 32, 140, 141] (by decide +kernel) (by decide +kernel)
set_option maxRecDepth 20000 in
theorem gX2_pass_X3_whatAt : GoodIn wsX2_pass (wsV RX2 49 RX3 yX3_whatAt wsX3_whatAt) := goodIn_app (goodIn_of _ (by decide +kernel)) ggX2_pass_X3_whatAt
set_option maxRecDepth 20000 in
theorem ggX2_pass_X1_reasonAgainst : GoodIn wsX2_pass wsX1_reasonAgainst := goodIn_r _ [66, 50, 51, 53, 67, 68, 69, 36, 70, 38, 71, 23, 72, 142, 143, 144, 145, 146, 147, 148, 149, 150, 151, 152, 153] (by decide +kernel) (by decide +kernel)
set_option maxRecDepth 20000 in
theorem gX2_pass_X1_reasonAgainst : GoodIn wsX2_pass (wsV RX2 52 RX1 yX1_reasonAgainst wsX1_reasonAgainst) := goodIn_app (goodIn_of _ (by decide +kernel)) ggX2_pass_X1_reasonAgainst
set_option maxRecDepth 20000 in
theorem ggX2_pass_X3_digitAt : GoodIn wsX2_pass wsX3_digitAt := goodIn_r _ [32, 17, 18, 19, 10, 20, 12, 21, 22, 23, 24, 140, 141] (by decide +kernel) (by decide +kernel)
set_option maxRecDepth 20000 in
theorem gX2_pass_X3_digitAt : GoodIn wsX2_pass (wsV RX2 56 RX3 yX3_digitAt wsX3_digitAt) := goodIn_app (goodIn_of _ (by decide +kernel)) ggX2_pass_X3_digitAt
set_option maxRecDepth 20000 in
theorem ggX2_pass_X2_actOn : GoodIn wsX2_pass wsX2_actOn := goodIn_r _ [78, 5, 1, 6, 2, 79, 80, 81, 36, 82, 50, 51, 52, 53, 83, 84, 85, 86, 45, 87, 23, 88, 89, 90, 91, 92, 93, 94, 95, 96, 97, 98, 99, 44, 67, 68, 69, 70, 38, 71, 72, 100, 101, 102, 103, 104, 105, 106, 107, 108, 109, 110, 111, 43, 112, 113, 114, 115, 116, 117, 118, 119, 120, 121, 122, 123, 124, 125, 126, 127, 46, 128, 129, 130, 131, 132, 133, 134, 135, 136, 137, 138, 139, 142, 143, 144, 145, 146, 147, 148, 149, 150, 151, 152, 153] (by decide +kernel) (by decide +kernel)
set_option maxRecDepth 20000 in
theorem gX2_pass_X2_actOn : GoodIn wsX2_pass (wsV RX2 59 RX2 yX2_actOn wsX2_actOn) := goodIn_app (goodIn_of _ (by decide +kernel)) ggX2_pass_X2_actOn
theorem dX2_pass_0 : decode cX2_pass 0 = .ok (.aload_n 0, 1) := by decide +kernel
theorem dX2_pass_1 : decode cX2_pass 1 = .ok (.iconst 0, 1) := by decide +kernel
theorem dX2_pass_2 : decode cX2_pass 2 = .ok (.putfield 9, 3) := by decide +kernel
theorem dX2_pass_5 : decode cX2_pass 5 = .ok (.aload_n 0, 1) := by decide +kernel
theorem dX2_pass_6 : decode cX2_pass 6 = .ok (.iconst 0, 1) := by decide +kernel
theorem dX2_pass_7 : decode cX2_pass 7 = .ok (.putfield 15, 3) := by decide +kernel
theorem dX2_pass_10 : decode cX2_pass 10 = .ok (.aload_n 0, 1) := by decide +kernel
theorem dX2_pass_11 : decode cX2_pass 11 = .ok (.bipush (-6), 2) := by decide +kernel
theorem dX2_pass_13 : decode cX2_pass 13 = .ok (.putfield 18, 3) := by decide +kernel
theorem dX2_pass_16 : decode cX2_pass 16 = .ok (.aload_n 0, 1) := by decide +kernel
theorem dX2_pass_17 : decode cX2_pass 17 = .ok (.bipush (-6), 2) := by decide +kernel
theorem dX2_pass_19 : decode cX2_pass 19 = .ok (.putfield 21, 3) := by decide +kernel
theorem dX2_pass_22 : decode cX2_pass 22 = .ok (.aload_n 0, 1) := by decide +kernel
theorem dX2_pass_23 : decode cX2_pass 23 = .ok (.bipush (-6), 2) := by decide +kernel
theorem dX2_pass_25 : decode cX2_pass 25 = .ok (.putfield 24, 3) := by decide +kernel
theorem dX2_pass_28 : decode cX2_pass 28 = .ok (.aload_n 0, 1) := by decide +kernel
theorem dX2_pass_29 : decode cX2_pass 29 = .ok (.bipush (-6), 2) := by decide +kernel
theorem dX2_pass_31 : decode cX2_pass 31 = .ok (.putfield 27, 3) := by decide +kernel
theorem dX2_pass_34 : decode cX2_pass 34 = .ok (.aload_n 1, 1) := by decide +kernel
theorem dX2_pass_35 : decode cX2_pass 35 = .ok (.invokevirtual 30, 3) := by decide +kernel
theorem dX2_pass_38 : decode cX2_pass 38 = .ok (.bipush (-6), 2) := by decide +kernel
theorem dX2_pass_40 : decode cX2_pass 40 = .ok (.if_icmp .eq 6, 3) := by decide +kernel
theorem dX2_pass_43 : decode cX2_pass 43 = .ok (.bipush (-5), 2) := by decide +kernel
theorem dX2_pass_45 : decode cX2_pass 45 = .ok (.ireturn, 1) := by decide +kernel
theorem dX2_pass_46 : decode cX2_pass 46 = .ok (.aload_n 2, 1) := by decide +kernel
theorem dX2_pass_47 : decode cX2_pass 47 = .ok (.aload_n 3, 1) := by decide +kernel
theorem dX2_pass_48 : decode cX2_pass 48 = .ok (.invokevirtual 36, 3) := by decide +kernel
theorem dX2_pass_51 : decode cX2_pass 51 = .ok (.iconst 0, 1) := by decide +kernel
theorem dX2_pass_52 : decode cX2_pass 52 = .ok (.istore 4, 2) := by decide +kernel
theorem dX2_pass_54 : decode cX2_pass 54 = .ok (.iload 4, 2) := by decide +kernel
theorem dX2_pass_56 : decode cX2_pass 56 = .ok (.aload_n 1, 1) := by decide +kernel
theorem dX2_pass_57 : decode cX2_pass 57 = .ok (.invokevirtual 42, 3) := by decide +kernel
theorem dX2_pass_60 : decode cX2_pass 60 = .ok (.if_icmp .ge 89, 3) := by decide +kernel
theorem dX2_pass_63 : decode cX2_pass 63 = .ok (.aload_n 1, 1) := by decide +kernel
theorem dX2_pass_64 : decode cX2_pass 64 = .ok (.iload 4, 2) := by decide +kernel
theorem dX2_pass_66 : decode cX2_pass 66 = .ok (.invokevirtual 45, 3) := by decide +kernel
theorem dX2_pass_69 : decode cX2_pass 69 = .ok (.istore 5, 2) := by decide +kernel
theorem dX2_pass_71 : decode cX2_pass 71 = .ok (.aload_n 2, 1) := by decide +kernel
theorem dX2_pass_72 : decode cX2_pass 72 = .ok (.iload 5, 2) := by decide +kernel
theorem dX2_pass_74 : decode cX2_pass 74 = .ok (.aload_n 1, 1) := by decide +kernel
theorem dX2_pass_75 : decode cX2_pass 75 = .ok (.iload 4, 2) := by decide +kernel
theorem dX2_pass_77 : decode cX2_pass 77 = .ok (.invokevirtual 49, 3) := by decide +kernel
theorem dX2_pass_80 : decode cX2_pass 80 = .ok (.invokevirtual 52, 3) := by decide +kernel
theorem dX2_pass_83 : decode cX2_pass 83 = .ok (.istore 6, 2) := by decide +kernel
theorem dX2_pass_85 : decode cX2_pass 85 = .ok (.iload 6, 2) := by decide +kernel
theorem dX2_pass_87 : decode cX2_pass 87 = .ok (.ifCond .eq 20, 3) := by decide +kernel
theorem dX2_pass_90 : decode cX2_pass 90 = .ok (.aload_n 0, 1) := by decide +kernel
theorem dX2_pass_91 : decode cX2_pass 91 = .ok (.aload_n 0, 1) := by decide +kernel
theorem dX2_pass_92 : decode cX2_pass 92 = .ok (.getfield 9, 3) := by decide +kernel
theorem dX2_pass_95 : decode cX2_pass 95 = .ok (.putfield 18, 3) := by decide +kernel
theorem dX2_pass_98 : decode cX2_pass 98 = .ok (.aload_n 0, 1) := by decide +kernel
theorem dX2_pass_99 : decode cX2_pass 99 = .ok (.iload 6, 2) := by decide +kernel
theorem dX2_pass_101 : decode cX2_pass 101 = .ok (.putfield 21, 3) := by decide +kernel
theorem dX2_pass_104 : decode cX2_pass 104 = .ok (.bipush (-3), 2) := by decide +kernel
theorem dX2_pass_106 : decode cX2_pass 106 = .ok (.ireturn, 1) := by decide +kernel
theorem dX2_pass_107 : decode cX2_pass 107 = .ok (.aload_n 0, 1) := by decide +kernel
theorem dX2_pass_108 : decode cX2_pass 108 = .ok (.aload_n 2, 1) := by decide +kernel
theorem dX2_pass_109 : decode cX2_pass 109 = .ok (.iload 5, 2) := by decide +kernel
theorem dX2_pass_111 : decode cX2_pass 111 = .ok (.aload_n 1, 1) := by decide +kernel
theorem dX2_pass_112 : decode cX2_pass 112 = .ok (.iload 4, 2) := by decide +kernel
theorem dX2_pass_114 : decode cX2_pass 114 = .ok (.invokevirtual 49, 3) := by decide +kernel
theorem dX2_pass_117 : decode cX2_pass 117 = .ok (.bipush 10, 2) := by decide +kernel
theorem dX2_pass_119 : decode cX2_pass 119 = .ok (.aload_n 1, 1) := by decide +kernel
theorem dX2_pass_120 : decode cX2_pass 120 = .ok (.iload 4, 2) := by decide +kernel
theorem dX2_pass_122 : decode cX2_pass 122 = .ok (.iconst 2, 1) := by decide +kernel
theorem dX2_pass_123 : decode cX2_pass 123 = .ok (.iadd, 1) := by decide +kernel
theorem dX2_pass_124 : decode cX2_pass 124 = .ok (.invokevirtual 56, 3) := by decide +kernel
theorem dX2_pass_127 : decode cX2_pass 127 = .ok (.imul, 1) := by decide +kernel
theorem dX2_pass_128 : decode cX2_pass 128 = .ok (.invokevirtual 59, 3) := by decide +kernel
theorem dX2_pass_131 : decode cX2_pass 131 = .ok (.iload 4, 2) := by decide +kernel
theorem dX2_pass_133 : decode cX2_pass 133 = .ok (.iload 5, 2) := by decide +kernel
theorem dX2_pass_135 : decode cX2_pass 135 = .ok (.ifCond .ne 7, 3) := by decide +kernel
theorem dX2_pass_138 : decode cX2_pass 138 = .ok (.iconst 3, 1) := by decide +kernel
theorem dX2_pass_139 : decode cX2_pass 139 = .ok (.goto 4, 3) := by decide +kernel
theorem dX2_pass_142 : decode cX2_pass 142 = .ok (.iconst 1, 1) := by decide +kernel
theorem dX2_pass_143 : decode cX2_pass 143 = .ok (.iadd, 1) := by decide +kernel
theorem dX2_pass_144 : decode cX2_pass 144 = .ok (.istore 4, 2) := by decide +kernel
theorem dX2_pass_146 : decode cX2_pass 146 = .ok (.goto (-92), 3) := by decide +kernel
theorem dX2_pass_149 : decode cX2_pass 149 = .ok (.iconst 0, 1) := by decide +kernel
theorem dX2_pass_150 : decode cX2_pass 150 = .ok (.ireturn, 1) := by decide +kernel
set_option maxRecDepth 20000 in
theorem ggX2_actOn_X1_panFact : GoodIn wsX2_actOn wsX1_panFact := goodIn_r _ [9, 10, 11, 12, 13, 83, 84, 85, 86, 87, 88, 89, 90, 91, 92, 93, 94] (by decide +kernel) (by decide +kernel)
set_option maxRecDepth 20000 in
theorem gX2_actOn_X1_panFact : GoodIn wsX2_actOn (wsV RX2 63 RX1 yX1_panFact wsX1_panFact) := goodIn_app (goodIn_of _ (by decide +kernel)) ggX2_actOn_X1_panFact
set_option maxRecDepth 20000 in
theorem ggX2_actOn_X1_beliefOf : GoodIn wsX2_actOn wsX1_beliefOf := goodIn_r _ [17, 18, 19, 20, 21, 83, 84, 85, 86, 87, 88, 89, 90, 91, 92, 93, 94] (by decide +kernel) (by decide +kernel)
set_option maxRecDepth 20000 in
theorem gX2_actOn_X1_beliefOf : GoodIn wsX2_actOn (wsV RX2 66 RX1 yX1_beliefOf wsX1_beliefOf) := goodIn_app (goodIn_of _ (by decide +kernel)) ggX2_actOn_X1_beliefOf
set_option maxRecDepth 20000 in
theorem ggX2_actOn_X1_act : GoodIn wsX2_actOn wsX1_act := goodIn_r _ [25, 12, 11, 10, 26, 27, 28, 29, 30, 31, 32, 13, 33, 34, 35, 36, 8, 37, 38, 39, 20, 40, 41, 42, 43, 44, 45, 46, 47, 48, 19, 21, 49, 50, 51, 52, 53, 54, 55, 56, 57, 18, 58, 59, 60, 61, 62, 63, 64, 65, 66, 67, 68, 69, 70, 71, 72, 73, 74, 75, 76, 83, 84, 85, 86, 87, 88, 89, 90, 91, 92, 93, 94] (by decide +kernel) (by decide +kernel)
set_option maxRecDepth 20000 in
theorem gX2_actOn_X1_act : GoodIn wsX2_actOn (wsV RX2 69 RX1 yX1_act wsX1_act) := goodIn_app (goodIn_of _ (by decide +kernel)) ggX2_actOn_X1_act
theorem dX2_actOn_0 : decode cX2_actOn 0 = .ok (.aload_n 1, 1) := by decide +kernel
theorem dX2_actOn_1 : decode cX2_actOn 1 = .ok (.iconst 0, 1) := by decide +kernel
theorem dX2_actOn_2 : decode cX2_actOn 2 = .ok (.invokevirtual 63, 3) := by decide +kernel
theorem dX2_actOn_5 : decode cX2_actOn 5 = .ok (.istore 5, 2) := by decide +kernel
theorem dX2_actOn_7 : decode cX2_actOn 7 = .ok (.aload_n 1, 1) := by decide +kernel
theorem dX2_actOn_8 : decode cX2_actOn 8 = .ok (.iload 5, 2) := by decide +kernel
theorem dX2_actOn_10 : decode cX2_actOn 10 = .ok (.invokevirtual 66, 3) := by decide +kernel
theorem dX2_actOn_13 : decode cX2_actOn 13 = .ok (.istore 6, 2) := by decide +kernel
theorem dX2_actOn_15 : decode cX2_actOn 15 = .ok (.aload_n 1, 1) := by decide +kernel
theorem dX2_actOn_16 : decode cX2_actOn 16 = .ok (.iload_n 2, 1) := by decide +kernel
theorem dX2_actOn_17 : decode cX2_actOn 17 = .ok (.iload_n 3, 1) := by decide +kernel
theorem dX2_actOn_18 : decode cX2_actOn 18 = .ok (.iload 4, 2) := by decide +kernel
theorem dX2_actOn_20 : decode cX2_actOn 20 = .ok (.invokevirtual 69, 3) := by decide +kernel
theorem dX2_actOn_23 : decode cX2_actOn 23 = .ok (.aload_n 0, 1) := by decide +kernel
theorem dX2_actOn_24 : decode cX2_actOn 24 = .ok (.getfield 24, 3) := by decide +kernel
theorem dX2_actOn_27 : decode cX2_actOn 27 = .ok (.bipush (-6), 2) := by decide +kernel
theorem dX2_actOn_29 : decode cX2_actOn 29 = .ok (.if_icmp .ne 28, 3) := by decide +kernel
theorem dX2_actOn_32 : decode cX2_actOn 32 = .ok (.aload_n 1, 1) := by decide +kernel
theorem dX2_actOn_33 : decode cX2_actOn 33 = .ok (.iload 5, 2) := by decide +kernel
theorem dX2_actOn_35 : decode cX2_actOn 35 = .ok (.invokevirtual 66, 3) := by decide +kernel
theorem dX2_actOn_38 : decode cX2_actOn 38 = .ok (.iload 6, 2) := by decide +kernel
theorem dX2_actOn_40 : decode cX2_actOn 40 = .ok (.if_icmp .eq 17, 3) := by decide +kernel
theorem dX2_actOn_43 : decode cX2_actOn 43 = .ok (.aload_n 0, 1) := by decide +kernel
theorem dX2_actOn_44 : decode cX2_actOn 44 = .ok (.aload_n 0, 1) := by decide +kernel
theorem dX2_actOn_45 : decode cX2_actOn 45 = .ok (.getfield 9, 3) := by decide +kernel
theorem dX2_actOn_48 : decode cX2_actOn 48 = .ok (.putfield 24, 3) := by decide +kernel
theorem dX2_actOn_51 : decode cX2_actOn 51 = .ok (.aload_n 0, 1) := by decide +kernel
theorem dX2_actOn_52 : decode cX2_actOn 52 = .ok (.iload 5, 2) := by decide +kernel
theorem dX2_actOn_54 : decode cX2_actOn 54 = .ok (.putfield 27, 3) := by decide +kernel
theorem dX2_actOn_57 : decode cX2_actOn 57 = .ok (.iload_n 2, 1) := by decide +kernel
theorem dX2_actOn_58 : decode cX2_actOn 58 = .ok (.iconst 2, 1) := by decide +kernel
theorem dX2_actOn_59 : decode cX2_actOn 59 = .ok (.if_icmp .ne 13, 3) := by decide +kernel
theorem dX2_actOn_62 : decode cX2_actOn 62 = .ok (.aload_n 0, 1) := by decide +kernel
theorem dX2_actOn_63 : decode cX2_actOn 63 = .ok (.dup, 1) := by decide +kernel
theorem dX2_actOn_64 : decode cX2_actOn 64 = .ok (.getfield 15, 3) := by decide +kernel
theorem dX2_actOn_67 : decode cX2_actOn 67 = .ok (.iconst 1, 1) := by decide +kernel
theorem dX2_actOn_68 : decode cX2_actOn 68 = .ok (.iadd, 1) := by decide +kernel
theorem dX2_actOn_69 : decode cX2_actOn 69 = .ok (.putfield 15, 3) := by decide +kernel
theorem dX2_actOn_72 : decode cX2_actOn 72 = .ok (.aload_n 0, 1) := by decide +kernel
theorem dX2_actOn_73 : decode cX2_actOn 73 = .ok (.dup, 1) := by decide +kernel
theorem dX2_actOn_74 : decode cX2_actOn 74 = .ok (.getfield 9, 3) := by decide +kernel
theorem dX2_actOn_77 : decode cX2_actOn 77 = .ok (.iconst 1, 1) := by decide +kernel
theorem dX2_actOn_78 : decode cX2_actOn 78 = .ok (.iadd, 1) := by decide +kernel
theorem dX2_actOn_79 : decode cX2_actOn 79 = .ok (.putfield 9, 3) := by decide +kernel
theorem dX2_actOn_82 : decode cX2_actOn 82 = .ok (.return_, 1) := by decide +kernel
theorem dX3_init_0 : decode cX3_init 0 = .ok (.aload_n 0, 1) := by decide +kernel
theorem dX3_init_1 : decode cX3_init 1 = .ok (.invokespecial 3, 3) := by decide +kernel
theorem dX3_init_4 : decode cX3_init 4 = .ok (.aload_n 0, 1) := by decide +kernel
theorem dX3_init_5 : decode cX3_init 5 = .ok (.bipush 60, 2) := by decide +kernel
theorem dX3_init_7 : decode cX3_init 7 = .ok (.newarray .int, 2) := by decide +kernel
theorem dX3_init_9 : decode cX3_init 9 = .ok (.putfield 9, 3) := by decide +kernel
theorem dX3_init_12 : decode cX3_init 12 = .ok (.return_, 1) := by decide +kernel
theorem dX3_size_0 : decode cX3_size 0 = .ok (.aload_n 0, 1) := by decide +kernel
theorem dX3_size_1 : decode cX3_size 1 = .ok (.getfield 15, 3) := by decide +kernel
theorem dX3_size_4 : decode cX3_size 4 = .ok (.ireturn, 1) := by decide +kernel
set_option maxRecDepth 20000 in
theorem ggX3_add_X6_within : GoodIn wsX3_add wsX6_within := goodIn_r _ [5] (by decide +kernel) (by decide +kernel)
set_option maxRecDepth 20000 in
theorem gX3_add_X6_within_n19 : GoodIn wsX3_add (wsX6_within) := ggX3_add_X6_within
theorem dX3_add_0 : decode cX3_add 0 = .ok (.aload_n 0, 1) := by decide +kernel
theorem dX3_add_1 : decode cX3_add 1 = .ok (.getfield 15, 3) := by decide +kernel
theorem dX3_add_4 : decode cX3_add 4 = .ok (.iconst 0, 1) := by decide +kernel
theorem dX3_add_5 : decode cX3_add 5 = .ok (.bipush 59, 2) := by decide +kernel
theorem dX3_add_7 : decode cX3_add 7 = .ok (.invokestatic 19, 3) := by decide +kernel
theorem dX3_add_10 : decode cX3_add 10 = .ok (.ifCond .ne 5, 3) := by decide +kernel
theorem dX3_add_13 : decode cX3_add 13 = .ok (.iconst 0, 1) := by decide +kernel
theorem dX3_add_14 : decode cX3_add 14 = .ok (.ireturn, 1) := by decide +kernel
theorem dX3_add_15 : decode cX3_add 15 = .ok (.aload_n 0, 1) := by decide +kernel
theorem dX3_add_16 : decode cX3_add 16 = .ok (.getfield 9, 3) := by decide +kernel
theorem dX3_add_19 : decode cX3_add 19 = .ok (.aload_n 0, 1) := by decide +kernel
theorem dX3_add_20 : decode cX3_add 20 = .ok (.getfield 15, 3) := by decide +kernel
theorem dX3_add_23 : decode cX3_add 23 = .ok (.iload_n 1, 1) := by decide +kernel
theorem dX3_add_24 : decode cX3_add 24 = .ok (.iastore, 1) := by decide +kernel
theorem dX3_add_25 : decode cX3_add 25 = .ok (.aload_n 0, 1) := by decide +kernel
theorem dX3_add_26 : decode cX3_add 26 = .ok (.dup, 1) := by decide +kernel
theorem dX3_add_27 : decode cX3_add 27 = .ok (.getfield 15, 3) := by decide +kernel
theorem dX3_add_30 : decode cX3_add 30 = .ok (.iconst 1, 1) := by decide +kernel
theorem dX3_add_31 : decode cX3_add 31 = .ok (.iadd, 1) := by decide +kernel
theorem dX3_add_32 : decode cX3_add 32 = .ok (.putfield 15, 3) := by decide +kernel
theorem dX3_add_35 : decode cX3_add 35 = .ok (.iconst 1, 1) := by decide +kernel
theorem dX3_add_36 : decode cX3_add 36 = .ok (.ireturn, 1) := by decide +kernel
theorem dX3_clear_0 : decode cX3_clear 0 = .ok (.aload_n 0, 1) := by decide +kernel
theorem dX3_clear_1 : decode cX3_clear 1 = .ok (.iconst 0, 1) := by decide +kernel
theorem dX3_clear_2 : decode cX3_clear 2 = .ok (.putfield 15, 3) := by decide +kernel
theorem dX3_clear_5 : decode cX3_clear 5 = .ok (.return_, 1) := by decide +kernel
set_option maxRecDepth 20000 in
theorem ggX3_signAt_X6_within : GoodIn wsX3_signAt wsX6_within := goodIn_r _ [5] (by decide +kernel) (by decide +kernel)
set_option maxRecDepth 20000 in
theorem gX3_signAt_X6_within_n19 : GoodIn wsX3_signAt (wsX6_within) := ggX3_signAt_X6_within
theorem dX3_signAt_0 : decode cX3_signAt 0 = .ok (.iload_n 1, 1) := by decide +kernel
theorem dX3_signAt_1 : decode cX3_signAt 1 = .ok (.iconst 0, 1) := by decide +kernel
theorem dX3_signAt_2 : decode cX3_signAt 2 = .ok (.bipush 59, 2) := by decide +kernel
theorem dX3_signAt_4 : decode cX3_signAt 4 = .ok (.invokestatic 19, 3) := by decide +kernel
theorem dX3_signAt_7 : decode cX3_signAt 7 = .ok (.ifCond .eq 20, 3) := by decide +kernel
theorem dX3_signAt_10 : decode cX3_signAt 10 = .ok (.iload_n 1, 1) := by decide +kernel
theorem dX3_signAt_11 : decode cX3_signAt 11 = .ok (.aload_n 0, 1) := by decide +kernel
theorem dX3_signAt_12 : decode cX3_signAt 12 = .ok (.getfield 15, 3) := by decide +kernel
theorem dX3_signAt_15 : decode cX3_signAt 15 = .ok (.if_icmp .ge 12, 3) := by decide +kernel
theorem dX3_signAt_18 : decode cX3_signAt 18 = .ok (.aload_n 0, 1) := by decide +kernel
theorem dX3_signAt_19 : decode cX3_signAt 19 = .ok (.getfield 9, 3) := by decide +kernel
theorem dX3_signAt_22 : decode cX3_signAt 22 = .ok (.iload_n 1, 1) := by decide +kernel
theorem dX3_signAt_23 : decode cX3_signAt 23 = .ok (.iaload, 1) := by decide +kernel
theorem dX3_signAt_24 : decode cX3_signAt 24 = .ok (.goto 5, 3) := by decide +kernel
theorem dX3_signAt_27 : decode cX3_signAt 27 = .ok (.bipush (-6), 2) := by decide +kernel
theorem dX3_signAt_29 : decode cX3_signAt 29 = .ok (.ireturn, 1) := by decide +kernel
set_option maxRecDepth 20000 in
theorem ggX3_digitAt_X3_signAt : GoodIn wsX3_digitAt wsX3_signAt := goodIn_r _ [5, 6, 7, 8, 9, 10, 11, 12] (by decide +kernel) (by decide +kernel)
set_option maxRecDepth 20000 in
theorem gX3_digitAt_X3_signAt : GoodIn wsX3_digitAt (wsV RX3 23 RX3 yX3_signAt wsX3_signAt) := goodIn_app (goodIn_of _ (by decide +kernel)) ggX3_digitAt_X3_signAt
theorem dX3_digitAt_0 : decode cX3_digitAt 0 = .ok (.aload_n 0, 1) := by decide +kernel
theorem dX3_digitAt_1 : decode cX3_digitAt 1 = .ok (.iload_n 1, 1) := by decide +kernel
theorem dX3_digitAt_2 : decode cX3_digitAt 2 = .ok (.invokevirtual 23, 3) := by decide +kernel
theorem dX3_digitAt_5 : decode cX3_digitAt 5 = .ok (.bipush 48, 2) := by decide +kernel
theorem dX3_digitAt_7 : decode cX3_digitAt 7 = .ok (.isub, 1) := by decide +kernel
theorem dX3_digitAt_8 : decode cX3_digitAt 8 = .ok (.ireturn, 1) := by decide +kernel
set_option maxRecDepth 20000 in
theorem ggX3_kindAt_X3_signAt : GoodIn wsX3_kindAt wsX3_signAt := goodIn_r _ [5, 6, 7, 8, 9, 10, 15, 16] (by decide +kernel) (by decide +kernel)
set_option maxRecDepth 20000 in
theorem gX3_kindAt_X3_signAt : GoodIn wsX3_kindAt (wsV RX3 23 RX3 yX3_signAt wsX3_signAt) := goodIn_app (goodIn_of _ (by decide +kernel)) ggX3_kindAt_X3_signAt
set_option maxRecDepth 20000 in
theorem ggX3_kindAt_X3_placeAt : GoodIn wsX3_kindAt wsX3_placeAt := goodIn_r _ [14, 1, 2, 3, 4, 5, 6, 7, 8, 9, 10, 15, 16] (by decide +kernel) (by decide +kernel)
set_option maxRecDepth 20000 in
theorem gX3_kindAt_X3_placeAt : GoodIn wsX3_kindAt (wsV RX3 27 RX3 yX3_placeAt wsX3_placeAt) := goodIn_app (goodIn_of _ (by decide +kernel)) ggX3_kindAt_X3_placeAt
theorem dX3_kindAt_0 : decode cX3_kindAt 0 = .ok (.aload_n 0, 1) := by decide +kernel
theorem dX3_kindAt_1 : decode cX3_kindAt 1 = .ok (.iload_n 1, 1) := by decide +kernel
theorem dX3_kindAt_2 : decode cX3_kindAt 2 = .ok (.invokevirtual 23, 3) := by decide +kernel
theorem dX3_kindAt_5 : decode cX3_kindAt 5 = .ok (.lookupswitch 51 #[(42, 45), (46, 49), (61, 43), (126, 47)], 43) := by decide +kernel
theorem dX3_kindAt_48 : decode cX3_kindAt 48 = .ok (.iconst 0, 1) := by decide +kernel
theorem dX3_kindAt_49 : decode cX3_kindAt 49 = .ok (.ireturn, 1) := by decide +kernel
theorem dX3_kindAt_50 : decode cX3_kindAt 50 = .ok (.iconst 2, 1) := by decide +kernel
theorem dX3_kindAt_51 : decode cX3_kindAt 51 = .ok (.ireturn, 1) := by decide +kernel
theorem dX3_kindAt_52 : decode cX3_kindAt 52 = .ok (.iconst 3, 1) := by decide +kernel
theorem dX3_kindAt_53 : decode cX3_kindAt 53 = .ok (.ireturn, 1) := by decide +kernel
theorem dX3_kindAt_54 : decode cX3_kindAt 54 = .ok (.iconst 4, 1) := by decide +kernel
theorem dX3_kindAt_55 : decode cX3_kindAt 55 = .ok (.ireturn, 1) := by decide +kernel
theorem dX3_kindAt_56 : decode cX3_kindAt 56 = .ok (.aload_n 0, 1) := by decide +kernel
theorem dX3_kindAt_57 : decode cX3_kindAt 57 = .ok (.iload_n 1, 1) := by decide +kernel
theorem dX3_kindAt_58 : decode cX3_kindAt 58 = .ok (.invokevirtual 27, 3) := by decide +kernel
theorem dX3_kindAt_61 : decode cX3_kindAt 61 = .ok (.bipush (-6), 2) := by decide +kernel
theorem dX3_kindAt_63 : decode cX3_kindAt 63 = .ok (.if_icmp .ne 8, 3) := by decide +kernel
theorem dX3_kindAt_66 : decode cX3_kindAt 66 = .ok (.bipush (-6), 2) := by decide +kernel
theorem dX3_kindAt_68 : decode cX3_kindAt 68 = .ok (.goto 4, 3) := by decide +kernel
theorem dX3_kindAt_71 : decode cX3_kindAt 71 = .ok (.iconst 1, 1) := by decide +kernel
theorem dX3_kindAt_72 : decode cX3_kindAt 72 = .ok (.ireturn, 1) := by decide +kernel
set_option maxRecDepth 20000 in
theorem ggX3_placeAt_X3_signAt : GoodIn wsX3_placeAt wsX3_signAt := goodIn_r _ [5, 6, 7, 8, 9, 10, 11, 12] (by decide +kernel) (by decide +kernel)
set_option maxRecDepth 20000 in
theorem gX3_placeAt_X3_signAt : GoodIn wsX3_placeAt (wsV RX3 23 RX3 yX3_signAt wsX3_signAt) := goodIn_app (goodIn_of _ (by decide +kernel)) ggX3_placeAt_X3_signAt
set_option maxRecDepth 20000 in
theorem ggX3_placeAt_X6_within : GoodIn wsX3_placeAt wsX6_within := goodIn_r _ [10] (by decide +kernel) (by decide +kernel)
set_option maxRecDepth 20000 in
theorem gX3_placeAt_X6_within_n19 : GoodIn wsX3_placeAt (wsX6_within) := ggX3_placeAt_X6_within
theorem dX3_placeAt_0 : decode cX3_placeAt 0 = .ok (.aload_n 0, 1) := by decide +kernel
theorem dX3_placeAt_1 : decode cX3_placeAt 1 = .ok (.iload_n 1, 1) := by decide +kernel
theorem dX3_placeAt_2 : decode cX3_placeAt 2 = .ok (.invokevirtual 23, 3) := by decide +kernel
theorem dX3_placeAt_5 : decode cX3_placeAt 5 = .ok (.istore_n 2, 1) := by decide +kernel
theorem dX3_placeAt_6 : decode cX3_placeAt 6 = .ok (.iload_n 2, 1) := by decide +kernel
theorem dX3_placeAt_7 : decode cX3_placeAt 7 = .ok (.bipush 65, 2) := by decide +kernel
theorem dX3_placeAt_9 : decode cX3_placeAt 9 = .ok (.bipush 74, 2) := by decide +kernel
theorem dX3_placeAt_11 : decode cX3_placeAt 11 = .ok (.invokestatic 19, 3) := by decide +kernel
theorem dX3_placeAt_14 : decode cX3_placeAt 14 = .ok (.ifCond .eq 8, 3) := by decide +kernel
theorem dX3_placeAt_17 : decode cX3_placeAt 17 = .ok (.iload_n 2, 1) := by decide +kernel
theorem dX3_placeAt_18 : decode cX3_placeAt 18 = .ok (.bipush 65, 2) := by decide +kernel
theorem dX3_placeAt_20 : decode cX3_placeAt 20 = .ok (.isub, 1) := by decide +kernel
theorem dX3_placeAt_21 : decode cX3_placeAt 21 = .ok (.ireturn, 1) := by decide +kernel
theorem dX3_placeAt_22 : decode cX3_placeAt 22 = .ok (.iload_n 2, 1) := by decide +kernel
theorem dX3_placeAt_23 : decode cX3_placeAt 23 = .ok (.bipush 107, 2) := by decide +kernel
theorem dX3_placeAt_25 : decode cX3_placeAt 25 = .ok (.if_icmp .ne 8, 3) := by decide +kernel
theorem dX3_placeAt_28 : decode cX3_placeAt 28 = .ok (.bipush 10, 2) := by decide +kernel
theorem dX3_placeAt_30 : decode cX3_placeAt 30 = .ok (.goto 5, 3) := by decide +kernel
theorem dX3_placeAt_33 : decode cX3_placeAt 33 = .ok (.bipush (-6), 2) := by decide +kernel
theorem dX3_placeAt_35 : decode cX3_placeAt 35 = .ok (.ireturn, 1) := by decide +kernel
set_option maxRecDepth 20000 in
theorem ggX3_whatAt_X3_kindAt : GoodIn wsX3_whatAt wsX3_kindAt := goodIn_r _ [5, 6, 7, 8, 4, 9, 10, 11, 12, 13, 14, 15, 16, 17, 18, 23, 24] (by decide +kernel) (by decide +kernel)
set_option maxRecDepth 20000 in
theorem gX3_whatAt_X3_kindAt : GoodIn wsX3_whatAt (wsV RX3 30 RX3 yX3_kindAt wsX3_kindAt) := goodIn_app (goodIn_of _ (by decide +kernel)) ggX3_whatAt_X3_kindAt
set_option maxRecDepth 20000 in
theorem ggX3_whatAt_X3_digitAt : GoodIn wsX3_whatAt wsX3_digitAt := goodIn_r _ [22, 6, 7, 8, 4, 9, 10, 11, 12, 13, 14, 23, 24] (by decide +kernel) (by decide +kernel)
set_option maxRecDepth 20000 in
theorem gX3_whatAt_X3_digitAt : GoodIn wsX3_whatAt (wsV RX3 33 RX3 yX3_digitAt wsX3_digitAt) := goodIn_app (goodIn_of _ (by decide +kernel)) ggX3_whatAt_X3_digitAt
set_option maxRecDepth 20000 in
theorem ggX3_whatAt_X3_placeAt : GoodIn wsX3_whatAt wsX3_placeAt := goodIn_r _ [18, 6, 7, 8, 4, 9, 10, 11, 12, 13, 14, 23, 24] (by decide +kernel) (by decide +kernel)
set_option maxRecDepth 20000 in
theorem gX3_whatAt_X3_placeAt : GoodIn wsX3_whatAt (wsV RX3 27 RX3 yX3_placeAt wsX3_placeAt) := goodIn_app (goodIn_of _ (by decide +kernel)) ggX3_whatAt_X3_placeAt
theorem dX3_whatAt_0 : decode cX3_whatAt 0 = .ok (.aload_n 0, 1) := by decide +kernel
theorem dX3_whatAt_1 : decode cX3_whatAt 1 = .ok (.iload_n 1, 1) := by decide +kernel
theorem dX3_whatAt_2 : decode cX3_whatAt 2 = .ok (.invokevirtual 30, 3) := by decide +kernel
theorem dX3_whatAt_5 : decode cX3_whatAt 5 = .ok (.ifCond .ne 13, 3) := by decide +kernel
theorem dX3_whatAt_8 : decode cX3_whatAt 8 = .ok (.aload_n 0, 1) := by decide +kernel
theorem dX3_whatAt_9 : decode cX3_whatAt 9 = .ok (.iload_n 1, 1) := by decide +kernel
theorem dX3_whatAt_10 : decode cX3_whatAt 10 = .ok (.iconst 1, 1) := by decide +kernel
theorem dX3_whatAt_11 : decode cX3_whatAt 11 = .ok (.iadd, 1) := by decide +kernel
theorem dX3_whatAt_12 : decode cX3_whatAt 12 = .ok (.invokevirtual 33, 3) := by decide +kernel
theorem dX3_whatAt_15 : decode cX3_whatAt 15 = .ok (.goto 8, 3) := by decide +kernel
theorem dX3_whatAt_18 : decode cX3_whatAt 18 = .ok (.aload_n 0, 1) := by decide +kernel
theorem dX3_whatAt_19 : decode cX3_whatAt 19 = .ok (.iload_n 1, 1) := by decide +kernel
theorem dX3_whatAt_20 : decode cX3_whatAt 20 = .ok (.invokevirtual 27, 3) := by decide +kernel
theorem dX3_whatAt_23 : decode cX3_whatAt 23 = .ok (.ireturn, 1) := by decide +kernel
set_option maxRecDepth 20000 in
theorem ggX3_faultPlace_X3_kindAt : GoodIn wsX3_faultPlace wsX3_kindAt := goodIn_r _ [6, 7, 8, 9, 5, 10, 1, 11, 12, 13, 14, 15, 16, 17, 18, 23, 24] (by decide +kernel) (by decide +kernel)
set_option maxRecDepth 20000 in
theorem gX3_faultPlace_X3_kindAt : GoodIn wsX3_faultPlace (wsV RX3 30 RX3 yX3_kindAt wsX3_kindAt) := goodIn_app (goodIn_of _ (by decide +kernel)) ggX3_faultPlace_X3_kindAt
set_option maxRecDepth 20000 in
theorem ggX3_faultPlace_X3_digitAt : GoodIn wsX3_faultPlace wsX3_digitAt := goodIn_r _ [22, 7, 8, 9, 5, 10, 1, 11, 12, 13, 14, 23, 24] (by decide +kernel) (by decide +kernel)
set_option maxRecDepth 20000 in
theorem gX3_faultPlace_X3_digitAt : GoodIn wsX3_faultPlace (wsV RX3 33 RX3 yX3_digitAt wsX3_digitAt) := goodIn_app (goodIn_of _ (by decide +kernel)) ggX3_faultPlace_X3_digitAt
set_option maxRecDepth 20000 in
theorem ggX3_faultPlace_X6_within : GoodIn wsX3_faultPlace wsX6_within := goodIn_r _ [14] (by decide +kernel) (by decide +kernel)
set_option maxRecDepth 20000 in
theorem gX3_faultPlace_X6_within_n19 : GoodIn wsX3_faultPlace (wsX6_within) := ggX3_faultPlace_X6_within
theorem dX3_faultPlace_0 : decode cX3_faultPlace 0 = .ok (.iconst 0, 1) := by decide +kernel
theorem dX3_faultPlace_1 : decode cX3_faultPlace 1 = .ok (.istore_n 1, 1) := by decide +kernel
theorem dX3_faultPlace_2 : decode cX3_faultPlace 2 = .ok (.iload_n 1, 1) := by decide +kernel
theorem dX3_faultPlace_3 : decode cX3_faultPlace 3 = .ok (.aload_n 0, 1) := by decide +kernel
theorem dX3_faultPlace_4 : decode cX3_faultPlace 4 = .ok (.getfield 15, 3) := by decide +kernel
theorem dX3_faultPlace_7 : decode cX3_faultPlace 7 = .ok (.if_icmp .ge 80, 3) := by decide +kernel
theorem dX3_faultPlace_10 : decode cX3_faultPlace 10 = .ok (.aload_n 0, 1) := by decide +kernel
theorem dX3_faultPlace_11 : decode cX3_faultPlace 11 = .ok (.iload_n 1, 1) := by decide +kernel
theorem dX3_faultPlace_12 : decode cX3_faultPlace 12 = .ok (.invokevirtual 30, 3) := by decide +kernel
theorem dX3_faultPlace_15 : decode cX3_faultPlace 15 = .ok (.istore_n 2, 1) := by decide +kernel
theorem dX3_faultPlace_16 : decode cX3_faultPlace 16 = .ok (.iload_n 2, 1) := by decide +kernel
theorem dX3_faultPlace_17 : decode cX3_faultPlace 17 = .ok (.bipush (-6), 2) := by decide +kernel
theorem dX3_faultPlace_19 : decode cX3_faultPlace 19 = .ok (.if_icmp .ne 5, 3) := by decide +kernel
theorem dX3_faultPlace_22 : decode cX3_faultPlace 22 = .ok (.iload_n 1, 1) := by decide +kernel
theorem dX3_faultPlace_23 : decode cX3_faultPlace 23 = .ok (.ireturn, 1) := by decide +kernel
theorem dX3_faultPlace_24 : decode cX3_faultPlace 24 = .ok (.iload_n 2, 1) := by decide +kernel
theorem dX3_faultPlace_25 : decode cX3_faultPlace 25 = .ok (.ifCond .ne 23, 3) := by decide +kernel
theorem dX3_faultPlace_28 : decode cX3_faultPlace 28 = .ok (.aload_n 0, 1) := by decide +kernel
theorem dX3_faultPlace_29 : decode cX3_faultPlace 29 = .ok (.iload_n 1, 1) := by decide +kernel
theorem dX3_faultPlace_30 : decode cX3_faultPlace 30 = .ok (.iconst 1, 1) := by decide +kernel
theorem dX3_faultPlace_31 : decode cX3_faultPlace 31 = .ok (.iadd, 1) := by decide +kernel
theorem dX3_faultPlace_32 : decode cX3_faultPlace 32 = .ok (.invokevirtual 33, 3) := by decide +kernel
theorem dX3_faultPlace_35 : decode cX3_faultPlace 35 = .ok (.iconst 0, 1) := by decide +kernel
theorem dX3_faultPlace_36 : decode cX3_faultPlace 36 = .ok (.bipush 9, 2) := by decide +kernel
theorem dX3_faultPlace_38 : decode cX3_faultPlace 38 = .ok (.invokestatic 19, 3) := by decide +kernel
theorem dX3_faultPlace_41 : decode cX3_faultPlace 41 = .ok (.ifCond .ne 7, 3) := by decide +kernel
theorem dX3_faultPlace_44 : decode cX3_faultPlace 44 = .ok (.iload_n 1, 1) := by decide +kernel
theorem dX3_faultPlace_45 : decode cX3_faultPlace 45 = .ok (.iconst 1, 1) := by decide +kernel
theorem dX3_faultPlace_46 : decode cX3_faultPlace 46 = .ok (.iadd, 1) := by decide +kernel
theorem dX3_faultPlace_47 : decode cX3_faultPlace 47 = .ok (.ireturn, 1) := by decide +kernel
theorem dX3_faultPlace_48 : decode cX3_faultPlace 48 = .ok (.iload_n 2, 1) := by decide +kernel
theorem dX3_faultPlace_49 : decode cX3_faultPlace 49 = .ok (.ifCond .ne 23, 3) := by decide +kernel
theorem dX3_faultPlace_52 : decode cX3_faultPlace 52 = .ok (.aload_n 0, 1) := by decide +kernel
theorem dX3_faultPlace_53 : decode cX3_faultPlace 53 = .ok (.iload_n 1, 1) := by decide +kernel
theorem dX3_faultPlace_54 : decode cX3_faultPlace 54 = .ok (.iconst 2, 1) := by decide +kernel
theorem dX3_faultPlace_55 : decode cX3_faultPlace 55 = .ok (.iadd, 1) := by decide +kernel
theorem dX3_faultPlace_56 : decode cX3_faultPlace 56 = .ok (.invokevirtual 33, 3) := by decide +kernel
theorem dX3_faultPlace_59 : decode cX3_faultPlace 59 = .ok (.iconst 1, 1) := by decide +kernel
theorem dX3_faultPlace_60 : decode cX3_faultPlace 60 = .ok (.bipush 9, 2) := by decide +kernel
theorem dX3_faultPlace_62 : decode cX3_faultPlace 62 = .ok (.invokestatic 19, 3) := by decide +kernel
theorem dX3_faultPlace_65 : decode cX3_faultPlace 65 = .ok (.ifCond .ne 7, 3) := by decide +kernel
theorem dX3_faultPlace_68 : decode cX3_faultPlace 68 = .ok (.iload_n 1, 1) := by decide +kernel
theorem dX3_faultPlace_69 : decode cX3_faultPlace 69 = .ok (.iconst 2, 1) := by decide +kernel
theorem dX3_faultPlace_70 : decode cX3_faultPlace 70 = .ok (.iadd, 1) := by decide +kernel
theorem dX3_faultPlace_71 : decode cX3_faultPlace 71 = .ok (.ireturn, 1) := by decide +kernel
theorem dX3_faultPlace_72 : decode cX3_faultPlace 72 = .ok (.iload_n 1, 1) := by decide +kernel
theorem dX3_faultPlace_73 : decode cX3_faultPlace 73 = .ok (.iload_n 2, 1) := by decide +kernel
theorem dX3_faultPlace_74 : decode cX3_faultPlace 74 = .ok (.ifCond .ne 7, 3) := by decide +kernel
theorem dX3_faultPlace_77 : decode cX3_faultPlace 77 = .ok (.iconst 3, 1) := by decide +kernel
theorem dX3_faultPlace_78 : decode cX3_faultPlace 78 = .ok (.goto 4, 3) := by decide +kernel
theorem dX3_faultPlace_81 : decode cX3_faultPlace 81 = .ok (.iconst 1, 1) := by decide +kernel
theorem dX3_faultPlace_82 : decode cX3_faultPlace 82 = .ok (.iadd, 1) := by decide +kernel
theorem dX3_faultPlace_83 : decode cX3_faultPlace 83 = .ok (.istore_n 1, 1) := by decide +kernel
theorem dX3_faultPlace_84 : decode cX3_faultPlace 84 = .ok (.goto (-82), 3) := by decide +kernel
theorem dX3_faultPlace_87 : decode cX3_faultPlace 87 = .ok (.bipush (-6), 2) := by decide +kernel
theorem dX3_faultPlace_89 : decode cX3_faultPlace 89 = .ok (.ireturn, 1) := by decide +kernel
theorem dX4_init_0 : decode cX4_init 0 = .ok (.aload_n 0, 1) := by decide +kernel
theorem dX4_init_1 : decode cX4_init 1 = .ok (.invokespecial 3, 3) := by decide +kernel
theorem dX4_init_4 : decode cX4_init 4 = .ok (.aload_n 0, 1) := by decide +kernel
theorem dX4_init_5 : decode cX4_init 5 = .ok (.sipush 410, 3) := by decide +kernel
theorem dX4_init_8 : decode cX4_init 8 = .ok (.newarray .int, 2) := by decide +kernel
theorem dX4_init_10 : decode cX4_init 10 = .ok (.putfield 9, 3) := by decide +kernel
theorem dX4_init_13 : decode cX4_init 13 = .ok (.aload_n 0, 1) := by decide +kernel
theorem dX4_init_14 : decode cX4_init 14 = .ok (.bipush 50, 2) := by decide +kernel
theorem dX4_init_16 : decode cX4_init 16 = .ok (.newarray .int, 2) := by decide +kernel
theorem dX4_init_18 : decode cX4_init 18 = .ok (.putfield 15, 3) := by decide +kernel
theorem dX4_init_21 : decode cX4_init 21 = .ok (.aload_n 0, 1) := by decide +kernel
theorem dX4_init_22 : decode cX4_init 22 = .ok (.bipush 10, 2) := by decide +kernel
theorem dX4_init_24 : decode cX4_init 24 = .ok (.newarray .int, 2) := by decide +kernel
theorem dX4_init_26 : decode cX4_init 26 = .ok (.putfield 18, 3) := by decide +kernel
theorem dX4_init_29 : decode cX4_init 29 = .ok (.return_, 1) := by decide +kernel
set_option maxRecDepth 20000 in
theorem ggX4_gather_X4_fadeAll : GoodIn wsX4_gather wsX4_fadeAll := goodIn_r _ [7, 8, 9, 10, 11, 12, 13, 14, 15, 16, 17, 43, 44, 45, 46, 47, 48, 49, 50, 51, 52, 53, 54, 55, 56, 57, 58] (by decide +kernel) (by decide +kernel)
set_option maxRecDepth 20000 in
theorem gX4_gather_X4_fadeAll : GoodIn wsX4_gather (wsV RX4 21 RX4 yX4_fadeAll wsX4_fadeAll) := goodIn_app (goodIn_of _ (by decide +kernel)) ggX4_gather_X4_fadeAll
set_option maxRecDepth 20000 in
theorem ggX4_gather_X4_isSo : GoodIn wsX4_gather wsX4_isSo := goodIn_r _ [21, 22, 23, 24, 12, 25, 26, 27, 28, 29, 30, 31, 32, 16, 33, 34, 35, 36, 6, 37, 8, 15, 17, 38, 39, 40, 41, 42, 47, 48, 49, 50, 51, 52, 53, 54, 55, 56, 57, 58, 43, 44, 45, 46] (by decide +kernel) (by decide +kernel)
set_option maxRecDepth 20000 in
theorem gX4_gather_X4_isSo : GoodIn wsX4_gather (wsV RX4 29 RX4 yX4_isSo wsX4_isSo) := goodIn_app (goodIn_of _ (by decide +kernel)) ggX4_gather_X4_isSo
set_option maxRecDepth 20000 in
theorem ggX4_gather_X6_within : GoodIn wsX4_gather wsX6_within := goodIn_r _ [33] (by decide +kernel) (by decide +kernel)
set_option maxRecDepth 20000 in
theorem gX4_gather_X6_within_n33 : GoodIn wsX4_gather (wsX6_within) := ggX4_gather_X6_within
theorem dX4_gather_0 : decode cX4_gather 0 = .ok (.aload_n 0, 1) := by decide +kernel
theorem dX4_gather_1 : decode cX4_gather 1 = .ok (.aload_n 1, 1) := by decide +kernel
theorem dX4_gather_2 : decode cX4_gather 2 = .ok (.invokevirtual 21, 3) := by decide +kernel
theorem dX4_gather_5 : decode cX4_gather 5 = .ok (.aload_n 0, 1) := by decide +kernel
theorem dX4_gather_6 : decode cX4_gather 6 = .ok (.iconst 0, 1) := by decide +kernel
theorem dX4_gather_7 : decode cX4_gather 7 = .ok (.putfield 25, 3) := by decide +kernel
theorem dX4_gather_10 : decode cX4_gather 10 = .ok (.iconst 0, 1) := by decide +kernel
theorem dX4_gather_11 : decode cX4_gather 11 = .ok (.istore_n 2, 1) := by decide +kernel
theorem dX4_gather_12 : decode cX4_gather 12 = .ok (.iload_n 2, 1) := by decide +kernel
theorem dX4_gather_13 : decode cX4_gather 13 = .ok (.bipush 10, 2) := by decide +kernel
theorem dX4_gather_15 : decode cX4_gather 15 = .ok (.if_icmp .ge 70, 3) := by decide +kernel
theorem dX4_gather_18 : decode cX4_gather 18 = .ok (.iconst 1, 1) := by decide +kernel
theorem dX4_gather_19 : decode cX4_gather 19 = .ok (.istore_n 3, 1) := by decide +kernel
theorem dX4_gather_20 : decode cX4_gather 20 = .ok (.iload_n 3, 1) := by decide +kernel
theorem dX4_gather_21 : decode cX4_gather 21 = .ok (.iconst 5, 1) := by decide +kernel
theorem dX4_gather_22 : decode cX4_gather 22 = .ok (.if_icmp .gt 57, 3) := by decide +kernel
theorem dX4_gather_25 : decode cX4_gather 25 = .ok (.aload_n 0, 1) := by decide +kernel
theorem dX4_gather_26 : decode cX4_gather 26 = .ok (.aload_n 1, 1) := by decide +kernel
theorem dX4_gather_27 : decode cX4_gather 27 = .ok (.iload_n 2, 1) := by decide +kernel
theorem dX4_gather_28 : decode cX4_gather 28 = .ok (.iload_n 3, 1) := by decide +kernel
theorem dX4_gather_29 : decode cX4_gather 29 = .ok (.invokevirtual 29, 3) := by decide +kernel
theorem dX4_gather_32 : decode cX4_gather 32 = .ok (.ifCond .eq 41, 3) := by decide +kernel
theorem dX4_gather_35 : decode cX4_gather 35 = .ok (.aload_n 0, 1) := by decide +kernel
theorem dX4_gather_36 : decode cX4_gather 36 = .ok (.getfield 25, 3) := by decide +kernel
theorem dX4_gather_39 : decode cX4_gather 39 = .ok (.iconst 0, 1) := by decide +kernel
theorem dX4_gather_40 : decode cX4_gather 40 = .ok (.bipush 49, 2) := by decide +kernel
theorem dX4_gather_42 : decode cX4_gather 42 = .ok (.invokestatic 33, 3) := by decide +kernel
theorem dX4_gather_45 : decode cX4_gather 45 = .ok (.ifCond .eq 28, 3) := by decide +kernel
theorem dX4_gather_48 : decode cX4_gather 48 = .ok (.aload_n 0, 1) := by decide +kernel
theorem dX4_gather_49 : decode cX4_gather 49 = .ok (.getfield 15, 3) := by decide +kernel
theorem dX4_gather_52 : decode cX4_gather 52 = .ok (.aload_n 0, 1) := by decide +kernel
theorem dX4_gather_53 : decode cX4_gather 53 = .ok (.getfield 25, 3) := by decide +kernel
theorem dX4_gather_56 : decode cX4_gather 56 = .ok (.bipush 10, 2) := by decide +kernel
theorem dX4_gather_58 : decode cX4_gather 58 = .ok (.iload_n 2, 1) := by decide +kernel
theorem dX4_gather_59 : decode cX4_gather 59 = .ok (.imul, 1) := by decide +kernel
theorem dX4_gather_60 : decode cX4_gather 60 = .ok (.iload_n 3, 1) := by decide +kernel
theorem dX4_gather_61 : decode cX4_gather 61 = .ok (.iadd, 1) := by decide +kernel
theorem dX4_gather_62 : decode cX4_gather 62 = .ok (.iastore, 1) := by decide +kernel
theorem dX4_gather_63 : decode cX4_gather 63 = .ok (.aload_n 0, 1) := by decide +kernel
theorem dX4_gather_64 : decode cX4_gather 64 = .ok (.dup, 1) := by decide +kernel
theorem dX4_gather_65 : decode cX4_gather 65 = .ok (.getfield 25, 3) := by decide +kernel
theorem dX4_gather_68 : decode cX4_gather 68 = .ok (.iconst 1, 1) := by decide +kernel
theorem dX4_gather_69 : decode cX4_gather 69 = .ok (.iadd, 1) := by decide +kernel
theorem dX4_gather_70 : decode cX4_gather 70 = .ok (.putfield 25, 3) := by decide +kernel
theorem dX4_gather_73 : decode cX4_gather 73 = .ok (.iinc 3 1, 3) := by decide +kernel
theorem dX4_gather_76 : decode cX4_gather 76 = .ok (.goto (-56), 3) := by decide +kernel
theorem dX4_gather_79 : decode cX4_gather 79 = .ok (.iinc 2 1, 3) := by decide +kernel
theorem dX4_gather_82 : decode cX4_gather 82 = .ok (.goto (-70), 3) := by decide +kernel
theorem dX4_gather_85 : decode cX4_gather 85 = .ok (.return_, 1) := by decide +kernel
set_option maxRecDepth 20000 in
theorem ggX4_fadeAll_X1_fadesInto : GoodIn wsX4_fadeAll wsX1_fadesInto := goodIn_r _ [6, 7, 8, 9, 10, 15, 16, 17, 18, 19, 20, 21, 22, 23, 24, 25, 26] (by decide +kernel) (by decide +kernel)
set_option maxRecDepth 20000 in
theorem gX4_fadeAll_X1_fadesInto : GoodIn wsX4_fadeAll (wsV RX4 37 RX1 yX1_fadesInto wsX1_fadesInto) := goodIn_app (goodIn_of _ (by decide +kernel)) ggX4_fadeAll_X1_fadesInto
theorem dX4_fadeAll_0 : decode cX4_fadeAll 0 = .ok (.iconst 0, 1) := by decide +kernel
theorem dX4_fadeAll_1 : decode cX4_fadeAll 1 = .ok (.istore_n 2, 1) := by decide +kernel
theorem dX4_fadeAll_2 : decode cX4_fadeAll 2 = .ok (.iload_n 2, 1) := by decide +kernel
theorem dX4_fadeAll_3 : decode cX4_fadeAll 3 = .ok (.bipush 10, 2) := by decide +kernel
theorem dX4_fadeAll_5 : decode cX4_fadeAll 5 = .ok (.if_icmp .ge 46, 3) := by decide +kernel
theorem dX4_fadeAll_8 : decode cX4_fadeAll 8 = .ok (.iload_n 2, 1) := by decide +kernel
theorem dX4_fadeAll_9 : decode cX4_fadeAll 9 = .ok (.istore_n 3, 1) := by decide +kernel
theorem dX4_fadeAll_10 : decode cX4_fadeAll 10 = .ok (.iconst 0, 1) := by decide +kernel
theorem dX4_fadeAll_11 : decode cX4_fadeAll 11 = .ok (.istore 4, 2) := by decide +kernel
theorem dX4_fadeAll_13 : decode cX4_fadeAll 13 = .ok (.iload 4, 2) := by decide +kernel
theorem dX4_fadeAll_15 : decode cX4_fadeAll 15 = .ok (.bipush 41, 2) := by decide +kernel
theorem dX4_fadeAll_17 : decode cX4_fadeAll 17 = .ok (.if_icmp .ge 28, 3) := by decide +kernel
theorem dX4_fadeAll_20 : decode cX4_fadeAll 20 = .ok (.aload_n 0, 1) := by decide +kernel
theorem dX4_fadeAll_21 : decode cX4_fadeAll 21 = .ok (.getfield 9, 3) := by decide +kernel
theorem dX4_fadeAll_24 : decode cX4_fadeAll 24 = .ok (.iload_n 2, 1) := by decide +kernel
theorem dX4_fadeAll_25 : decode cX4_fadeAll 25 = .ok (.bipush 41, 2) := by decide +kernel
theorem dX4_fadeAll_27 : decode cX4_fadeAll 27 = .ok (.imul, 1) := by decide +kernel
theorem dX4_fadeAll_28 : decode cX4_fadeAll 28 = .ok (.iload 4, 2) := by decide +kernel
theorem dX4_fadeAll_30 : decode cX4_fadeAll 30 = .ok (.iadd, 1) := by decide +kernel
theorem dX4_fadeAll_31 : decode cX4_fadeAll 31 = .ok (.iload_n 3, 1) := by decide +kernel
theorem dX4_fadeAll_32 : decode cX4_fadeAll 32 = .ok (.iastore, 1) := by decide +kernel
theorem dX4_fadeAll_33 : decode cX4_fadeAll 33 = .ok (.aload_n 1, 1) := by decide +kernel
theorem dX4_fadeAll_34 : decode cX4_fadeAll 34 = .ok (.iload_n 3, 1) := by decide +kernel
theorem dX4_fadeAll_35 : decode cX4_fadeAll 35 = .ok (.invokevirtual 37, 3) := by decide +kernel
theorem dX4_fadeAll_38 : decode cX4_fadeAll 38 = .ok (.istore_n 3, 1) := by decide +kernel
theorem dX4_fadeAll_39 : decode cX4_fadeAll 39 = .ok (.iinc 4 1, 3) := by decide +kernel
theorem dX4_fadeAll_42 : decode cX4_fadeAll 42 = .ok (.goto (-29), 3) := by decide +kernel
theorem dX4_fadeAll_45 : decode cX4_fadeAll 45 = .ok (.iinc 2 1, 3) := by decide +kernel
theorem dX4_fadeAll_48 : decode cX4_fadeAll 48 = .ok (.goto (-46), 3) := by decide +kernel
theorem dX4_fadeAll_51 : decode cX4_fadeAll 51 = .ok (.return_, 1) := by decide +kernel
set_option maxRecDepth 20000 in
theorem ggX4_isSo_X1_sightCount : GoodIn wsX4_isSo wsX1_sightCount := goodIn_r _ [5, 6, 28, 29, 30, 31, 32, 33, 34, 35, 36, 37, 38, 39] (by decide +kernel) (by decide +kernel)
set_option maxRecDepth 20000 in
theorem gX4_isSo_X1_sightCount : GoodIn wsX4_isSo (wsV RX4 43 RX1 yX1_sightCount wsX1_sightCount) := goodIn_app (goodIn_of _ (by decide +kernel)) ggX4_isSo_X1_sightCount
set_option maxRecDepth 20000 in
theorem ggX4_isSo_X1_sightBed : GoodIn wsX4_isSo wsX1_sightBed := goodIn_r _ [10, 11, 12, 13, 14, 28, 29, 30, 31, 32, 33, 34, 35, 36, 37, 38, 39] (by decide +kernel) (by decide +kernel)
set_option maxRecDepth 20000 in
theorem gX4_isSo_X1_sightBed : GoodIn wsX4_isSo (wsV RX4 47 RX1 yX1_sightBed wsX1_sightBed) := goodIn_app (goodIn_of _ (by decide +kernel)) ggX4_isSo_X1_sightBed
set_option maxRecDepth 20000 in
theorem ggX4_isSo_X4_taleInBed : GoodIn wsX4_isSo wsX4_taleInBed := goodIn_r _ [19, 20, 21, 13, 22, 12, 14, 40, 41, 42, 43] (by decide +kernel) (by decide +kernel)
set_option maxRecDepth 20000 in
theorem gX4_isSo_X4_taleInBed : GoodIn wsX4_isSo (wsV RX4 50 RX4 yX4_taleInBed wsX4_taleInBed) := goodIn_app (goodIn_of _ (by decide +kernel)) ggX4_isSo_X4_taleInBed
set_option maxRecDepth 20000 in
theorem ggX4_isSo_X1_sightTale : GoodIn wsX4_isSo wsX1_sightTale := goodIn_r _ [26, 27, 12, 13, 14, 28, 29, 30, 31, 32, 33, 34, 35, 36, 37, 38, 39] (by decide +kernel) (by decide +kernel)
set_option maxRecDepth 20000 in
theorem gX4_isSo_X1_sightTale : GoodIn wsX4_isSo (wsV RX4 54 RX1 yX1_sightTale wsX1_sightTale) := goodIn_app (goodIn_of _ (by decide +kernel)) ggX4_isSo_X1_sightTale
theorem dX4_isSo_0 : decode cX4_isSo 0 = .ok (.iconst 0, 1) := by decide +kernel
theorem dX4_isSo_1 : decode cX4_isSo 1 = .ok (.istore 4, 2) := by decide +kernel
theorem dX4_isSo_3 : decode cX4_isSo 3 = .ok (.iload 4, 2) := by decide +kernel
theorem dX4_isSo_5 : decode cX4_isSo 5 = .ok (.aload_n 1, 1) := by decide +kernel
theorem dX4_isSo_6 : decode cX4_isSo 6 = .ok (.invokevirtual 43, 3) := by decide +kernel
theorem dX4_isSo_9 : decode cX4_isSo 9 = .ok (.if_icmp .ge 32, 3) := by decide +kernel
theorem dX4_isSo_12 : decode cX4_isSo 12 = .ok (.aload_n 0, 1) := by decide +kernel
theorem dX4_isSo_13 : decode cX4_isSo 13 = .ok (.iload_n 2, 1) := by decide +kernel
theorem dX4_isSo_14 : decode cX4_isSo 14 = .ok (.iload_n 3, 1) := by decide +kernel
theorem dX4_isSo_15 : decode cX4_isSo 15 = .ok (.aload_n 1, 1) := by decide +kernel
theorem dX4_isSo_16 : decode cX4_isSo 16 = .ok (.iload 4, 2) := by decide +kernel
theorem dX4_isSo_18 : decode cX4_isSo 18 = .ok (.invokevirtual 47, 3) := by decide +kernel
theorem dX4_isSo_21 : decode cX4_isSo 21 = .ok (.invokevirtual 50, 3) := by decide +kernel
theorem dX4_isSo_24 : decode cX4_isSo 24 = .ok (.aload_n 1, 1) := by decide +kernel
theorem dX4_isSo_25 : decode cX4_isSo 25 = .ok (.iload 4, 2) := by decide +kernel
theorem dX4_isSo_27 : decode cX4_isSo 27 = .ok (.invokevirtual 54, 3) := by decide +kernel
theorem dX4_isSo_30 : decode cX4_isSo 30 = .ok (.if_icmp .eq 5, 3) := by decide +kernel
theorem dX4_isSo_33 : decode cX4_isSo 33 = .ok (.iconst 0, 1) := by decide +kernel
theorem dX4_isSo_34 : decode cX4_isSo 34 = .ok (.ireturn, 1) := by decide +kernel
theorem dX4_isSo_35 : decode cX4_isSo 35 = .ok (.iinc 4 1, 3) := by decide +kernel
theorem dX4_isSo_38 : decode cX4_isSo 38 = .ok (.goto (-35), 3) := by decide +kernel
theorem dX4_isSo_41 : decode cX4_isSo 41 = .ok (.iconst 1, 1) := by decide +kernel
theorem dX4_isSo_42 : decode cX4_isSo 42 = .ok (.ireturn, 1) := by decide +kernel
set_option maxRecDepth 20000 in
theorem ggX4_taleInBed_X6_isTale : GoodIn wsX4_taleInBed wsX6_isTale := goodIn_r _ [4] (by decide +kernel) (by decide +kernel)
set_option maxRecDepth 20000 in
theorem gX4_taleInBed_X6_isTale_n57 : GoodIn wsX4_taleInBed (wsX6_isTale) := ggX4_taleInBed_X6_isTale
set_option maxRecDepth 20000 in
theorem ggX4_taleInBed_X6_within : GoodIn wsX4_taleInBed wsX6_within := goodIn_r _ [6] (by decide +kernel) (by decide +kernel)
set_option maxRecDepth 20000 in
theorem gX4_taleInBed_X6_within_n33 : GoodIn wsX4_taleInBed (wsX6_within) := ggX4_taleInBed_X6_within
theorem dX4_taleInBed_0 : decode cX4_taleInBed 0 = .ok (.iload_n 1, 1) := by decide +kernel
theorem dX4_taleInBed_1 : decode cX4_taleInBed 1 = .ok (.invokestatic 57, 3) := by decide +kernel
theorem dX4_taleInBed_4 : decode cX4_taleInBed 4 = .ok (.ifCond .eq 21, 3) := by decide +kernel
theorem dX4_taleInBed_7 : decode cX4_taleInBed 7 = .ok (.iload_n 2, 1) := by decide +kernel
theorem dX4_taleInBed_8 : decode cX4_taleInBed 8 = .ok (.ifCond .le 17, 3) := by decide +kernel
theorem dX4_taleInBed_11 : decode cX4_taleInBed 11 = .ok (.iload_n 3, 1) := by decide +kernel
theorem dX4_taleInBed_12 : decode cX4_taleInBed 12 = .ok (.iconst 0, 1) := by decide +kernel
theorem dX4_taleInBed_13 : decode cX4_taleInBed 13 = .ok (.bipush 40, 2) := by decide +kernel
theorem dX4_taleInBed_15 : decode cX4_taleInBed 15 = .ok (.invokestatic 33, 3) := by decide +kernel
theorem dX4_taleInBed_18 : decode cX4_taleInBed 18 = .ok (.ifCond .eq 7, 3) := by decide +kernel
theorem dX4_taleInBed_21 : decode cX4_taleInBed 21 = .ok (.iconst 1, 1) := by decide +kernel
theorem dX4_taleInBed_22 : decode cX4_taleInBed 22 = .ok (.goto 4, 3) := by decide +kernel
theorem dX4_taleInBed_25 : decode cX4_taleInBed 25 = .ok (.iconst 0, 1) := by decide +kernel
theorem dX4_taleInBed_26 : decode cX4_taleInBed 26 = .ok (.istore 4, 2) := by decide +kernel
theorem dX4_taleInBed_28 : decode cX4_taleInBed 28 = .ok (.iload 4, 2) := by decide +kernel
theorem dX4_taleInBed_30 : decode cX4_taleInBed 30 = .ok (.ifCond .eq 19, 3) := by decide +kernel
theorem dX4_taleInBed_33 : decode cX4_taleInBed 33 = .ok (.aload_n 0, 1) := by decide +kernel
theorem dX4_taleInBed_34 : decode cX4_taleInBed 34 = .ok (.getfield 9, 3) := by decide +kernel
theorem dX4_taleInBed_37 : decode cX4_taleInBed 37 = .ok (.iload_n 1, 1) := by decide +kernel
theorem dX4_taleInBed_38 : decode cX4_taleInBed 38 = .ok (.bipush 41, 2) := by decide +kernel
theorem dX4_taleInBed_40 : decode cX4_taleInBed 40 = .ok (.imul, 1) := by decide +kernel
theorem dX4_taleInBed_41 : decode cX4_taleInBed 41 = .ok (.iload_n 3, 1) := by decide +kernel
theorem dX4_taleInBed_42 : decode cX4_taleInBed 42 = .ok (.iload_n 2, 1) := by decide +kernel
theorem dX4_taleInBed_43 : decode cX4_taleInBed 43 = .ok (.idiv, 1) := by decide +kernel
theorem dX4_taleInBed_44 : decode cX4_taleInBed 44 = .ok (.iadd, 1) := by decide +kernel
theorem dX4_taleInBed_45 : decode cX4_taleInBed 45 = .ok (.iaload, 1) := by decide +kernel
theorem dX4_taleInBed_46 : decode cX4_taleInBed 46 = .ok (.goto 5, 3) := by decide +kernel
theorem dX4_taleInBed_49 : decode cX4_taleInBed 49 = .ok (.bipush (-6), 2) := by decide +kernel
theorem dX4_taleInBed_51 : decode cX4_taleInBed 51 = .ok (.ireturn, 1) := by decide +kernel
theorem dX4_size_0 : decode cX4_size 0 = .ok (.aload_n 0, 1) := by decide +kernel
theorem dX4_size_1 : decode cX4_size 1 = .ok (.getfield 25, 3) := by decide +kernel
theorem dX4_size_4 : decode cX4_size 4 = .ok (.ireturn, 1) := by decide +kernel
set_option maxRecDepth 20000 in
theorem ggX4_pick_X6_within : GoodIn wsX4_pick wsX6_within := goodIn_r _ [5] (by decide +kernel) (by decide +kernel)
set_option maxRecDepth 20000 in
theorem gX4_pick_X6_within_n33 : GoodIn wsX4_pick (wsX6_within) := ggX4_pick_X6_within
theorem dX4_pick_0 : decode cX4_pick 0 = .ok (.iload_n 1, 1) := by decide +kernel
theorem dX4_pick_1 : decode cX4_pick 1 = .ok (.iconst 0, 1) := by decide +kernel
theorem dX4_pick_2 : decode cX4_pick 2 = .ok (.bipush 49, 2) := by decide +kernel
theorem dX4_pick_4 : decode cX4_pick 4 = .ok (.invokestatic 33, 3) := by decide +kernel
theorem dX4_pick_7 : decode cX4_pick 7 = .ok (.ifCond .eq 20, 3) := by decide +kernel
theorem dX4_pick_10 : decode cX4_pick 10 = .ok (.iload_n 1, 1) := by decide +kernel
theorem dX4_pick_11 : decode cX4_pick 11 = .ok (.aload_n 0, 1) := by decide +kernel
theorem dX4_pick_12 : decode cX4_pick 12 = .ok (.getfield 25, 3) := by decide +kernel
theorem dX4_pick_15 : decode cX4_pick 15 = .ok (.if_icmp .ge 12, 3) := by decide +kernel
theorem dX4_pick_18 : decode cX4_pick 18 = .ok (.aload_n 0, 1) := by decide +kernel
theorem dX4_pick_19 : decode cX4_pick 19 = .ok (.getfield 15, 3) := by decide +kernel
theorem dX4_pick_22 : decode cX4_pick 22 = .ok (.iload_n 1, 1) := by decide +kernel
theorem dX4_pick_23 : decode cX4_pick 23 = .ok (.iaload, 1) := by decide +kernel
theorem dX4_pick_24 : decode cX4_pick 24 = .ok (.goto 5, 3) := by decide +kernel
theorem dX4_pick_27 : decode cX4_pick 27 = .ok (.bipush (-6), 2) := by decide +kernel
theorem dX4_pick_29 : decode cX4_pick 29 = .ok (.ireturn, 1) := by decide +kernel
set_option maxRecDepth 20000 in
theorem ggX4_bedToAsk_X4_mostLeft : GoodIn wsX4_bedToAsk wsX4_mostLeft := goodIn_r _ [6, 7, 1, 8, 9, 10, 11, 12, 13, 14, 15, 16, 17, 18, 5, 19, 20, 21, 22, 23, 24, 25, 26, 27, 28, 29, 30, 31, 32, 33, 34] (by decide +kernel) (by decide +kernel)
set_option maxRecDepth 20000 in
theorem gX4_bedToAsk_X4_mostLeft : GoodIn wsX4_bedToAsk (wsV RX4 61 RX4 yX4_mostLeft wsX4_mostLeft) := goodIn_app (goodIn_of _ (by decide +kernel)) ggX4_bedToAsk_X4_mostLeft
theorem dX4_bedToAsk_0 : decode cX4_bedToAsk 0 = .ok (.aload_n 0, 1) := by decide +kernel
theorem dX4_bedToAsk_1 : decode cX4_bedToAsk 1 = .ok (.getfield 25, 3) := by decide +kernel
theorem dX4_bedToAsk_4 : decode cX4_bedToAsk 4 = .ok (.ifCond .ne 6, 3) := by decide +kernel
theorem dX4_bedToAsk_7 : decode cX4_bedToAsk 7 = .ok (.bipush (-6), 2) := by decide +kernel
theorem dX4_bedToAsk_9 : decode cX4_bedToAsk 9 = .ok (.ireturn, 1) := by decide +kernel
theorem dX4_bedToAsk_10 : decode cX4_bedToAsk 10 = .ok (.iconst 0, 1) := by decide +kernel
theorem dX4_bedToAsk_11 : decode cX4_bedToAsk 11 = .ok (.istore_n 1, 1) := by decide +kernel
theorem dX4_bedToAsk_12 : decode cX4_bedToAsk 12 = .ok (.aload_n 0, 1) := by decide +kernel
theorem dX4_bedToAsk_13 : decode cX4_bedToAsk 13 = .ok (.iconst 0, 1) := by decide +kernel
theorem dX4_bedToAsk_14 : decode cX4_bedToAsk 14 = .ok (.invokevirtual 61, 3) := by decide +kernel
end
section
theorem dX4_bedToAsk_17 : decode cX4_bedToAsk 17 = .ok (.istore_n 2, 1) := by decide +kernel
theorem dX4_bedToAsk_18 : decode cX4_bedToAsk 18 = .ok (.iconst 1, 1) := by decide +kernel
theorem dX4_bedToAsk_19 : decode cX4_bedToAsk 19 = .ok (.istore_n 3, 1) := by decide +kernel
theorem dX4_bedToAsk_20 : decode cX4_bedToAsk 20 = .ok (.iload_n 3, 1) := by decide +kernel
theorem dX4_bedToAsk_21 : decode cX4_bedToAsk 21 = .ok (.bipush 41, 2) := by decide +kernel
theorem dX4_bedToAsk_23 : decode cX4_bedToAsk 23 = .ok (.if_icmp .ge 27, 3) := by decide +kernel
theorem dX4_bedToAsk_26 : decode cX4_bedToAsk 26 = .ok (.aload_n 0, 1) := by decide +kernel
theorem dX4_bedToAsk_27 : decode cX4_bedToAsk 27 = .ok (.iload_n 3, 1) := by decide +kernel
theorem dX4_bedToAsk_28 : decode cX4_bedToAsk 28 = .ok (.invokevirtual 61, 3) := by decide +kernel
theorem dX4_bedToAsk_31 : decode cX4_bedToAsk 31 = .ok (.istore 4, 2) := by decide +kernel
theorem dX4_bedToAsk_33 : decode cX4_bedToAsk 33 = .ok (.iload 4, 2) := by decide +kernel
theorem dX4_bedToAsk_35 : decode cX4_bedToAsk 35 = .ok (.iload_n 2, 1) := by decide +kernel
theorem dX4_bedToAsk_36 : decode cX4_bedToAsk 36 = .ok (.if_icmp .ge 8, 3) := by decide +kernel
theorem dX4_bedToAsk_39 : decode cX4_bedToAsk 39 = .ok (.iload_n 3, 1) := by decide +kernel
theorem dX4_bedToAsk_40 : decode cX4_bedToAsk 40 = .ok (.istore_n 1, 1) := by decide +kernel
theorem dX4_bedToAsk_41 : decode cX4_bedToAsk 41 = .ok (.iload 4, 2) := by decide +kernel
theorem dX4_bedToAsk_43 : decode cX4_bedToAsk 43 = .ok (.istore_n 2, 1) := by decide +kernel
theorem dX4_bedToAsk_44 : decode cX4_bedToAsk 44 = .ok (.iinc 3 1, 3) := by decide +kernel
theorem dX4_bedToAsk_47 : decode cX4_bedToAsk 47 = .ok (.goto (-27), 3) := by decide +kernel
theorem dX4_bedToAsk_50 : decode cX4_bedToAsk 50 = .ok (.iload_n 1, 1) := by decide +kernel
theorem dX4_bedToAsk_51 : decode cX4_bedToAsk 51 = .ok (.ireturn, 1) := by decide +kernel
set_option maxRecDepth 20000 in
theorem ggX4_mostLeft_J7_fill_53178 : GoodIn wsX4_mostLeft wsJ7_fill_53178 := goodIn_r _ [10] (by decide +kernel) (by decide +kernel)
set_option maxRecDepth 20000 in
theorem gX4_mostLeft_J7_fill_53178 : GoodIn wsX4_mostLeft (va_wsS RX4 64 yJ7_fill_53178 wsJ7_fill_53178) := goodIn_app (goodIn_of _ (by decide +kernel)) ggX4_mostLeft_J7_fill_53178
set_option maxRecDepth 20000 in
theorem ggX4_mostLeft_X4_pick : GoodIn wsX4_mostLeft wsX4_pick := goodIn_r _ [15, 2, 16, 17, 18, 19, 27, 28, 29, 30] (by decide +kernel) (by decide +kernel)
set_option maxRecDepth 20000 in
theorem gX4_mostLeft_X4_pick : GoodIn wsX4_mostLeft (wsV RX4 70 RX4 yX4_pick wsX4_pick) := goodIn_app (goodIn_of _ (by decide +kernel)) ggX4_mostLeft_X4_pick
set_option maxRecDepth 20000 in
theorem ggX4_mostLeft_X4_taleInBed : GoodIn wsX4_mostLeft wsX4_taleInBed := goodIn_r _ [23, 24, 25, 18, 26, 17, 19, 27, 28, 29, 30] (by decide +kernel) (by decide +kernel)
set_option maxRecDepth 20000 in
theorem gX4_mostLeft_X4_taleInBed : GoodIn wsX4_mostLeft (wsV RX4 50 RX4 yX4_taleInBed wsX4_taleInBed) := goodIn_app (goodIn_of _ (by decide +kernel)) ggX4_mostLeft_X4_taleInBed
set_option maxRecDepth 20000 in
theorem ggX4_mostLeft_X6_isTale : GoodIn wsX4_mostLeft wsX6_isTale := goodIn_r _ [26] (by decide +kernel) (by decide +kernel)
set_option maxRecDepth 20000 in
theorem gX4_mostLeft_X6_isTale_n57 : GoodIn wsX4_mostLeft (wsX6_isTale) := ggX4_mostLeft_X6_isTale
theorem dX4_mostLeft_0 : decode cX4_mostLeft 0 = .ok (.aload_n 0, 1) := by decide +kernel
theorem dX4_mostLeft_1 : decode cX4_mostLeft 1 = .ok (.getfield 18, 3) := by decide +kernel
theorem dX4_mostLeft_4 : decode cX4_mostLeft 4 = .ok (.iconst 0, 1) := by decide +kernel
theorem dX4_mostLeft_5 : decode cX4_mostLeft 5 = .ok (.invokestatic 64, 3) := by decide +kernel
theorem dX4_mostLeft_8 : decode cX4_mostLeft 8 = .ok (.iconst 0, 1) := by decide +kernel
theorem dX4_mostLeft_9 : decode cX4_mostLeft 9 = .ok (.istore_n 2, 1) := by decide +kernel
theorem dX4_mostLeft_10 : decode cX4_mostLeft 10 = .ok (.iconst 0, 1) := by decide +kernel
theorem dX4_mostLeft_11 : decode cX4_mostLeft 11 = .ok (.istore_n 3, 1) := by decide +kernel
theorem dX4_mostLeft_12 : decode cX4_mostLeft 12 = .ok (.iload_n 3, 1) := by decide +kernel
theorem dX4_mostLeft_13 : decode cX4_mostLeft 13 = .ok (.aload_n 0, 1) := by decide +kernel
theorem dX4_mostLeft_14 : decode cX4_mostLeft 14 = .ok (.getfield 25, 3) := by decide +kernel
theorem dX4_mostLeft_17 : decode cX4_mostLeft 17 = .ok (.if_icmp .ge 64, 3) := by decide +kernel
theorem dX4_mostLeft_20 : decode cX4_mostLeft 20 = .ok (.aload_n 0, 1) := by decide +kernel
theorem dX4_mostLeft_21 : decode cX4_mostLeft 21 = .ok (.iload_n 3, 1) := by decide +kernel
theorem dX4_mostLeft_22 : decode cX4_mostLeft 22 = .ok (.invokevirtual 70, 3) := by decide +kernel
theorem dX4_mostLeft_25 : decode cX4_mostLeft 25 = .ok (.istore 4, 2) := by decide +kernel
theorem dX4_mostLeft_27 : decode cX4_mostLeft 27 = .ok (.aload_n 0, 1) := by decide +kernel
theorem dX4_mostLeft_28 : decode cX4_mostLeft 28 = .ok (.iload 4, 2) := by decide +kernel
theorem dX4_mostLeft_30 : decode cX4_mostLeft 30 = .ok (.bipush 10, 2) := by decide +kernel
theorem dX4_mostLeft_32 : decode cX4_mostLeft 32 = .ok (.idiv, 1) := by decide +kernel
theorem dX4_mostLeft_33 : decode cX4_mostLeft 33 = .ok (.iload 4, 2) := by decide +kernel
theorem dX4_mostLeft_35 : decode cX4_mostLeft 35 = .ok (.bipush 10, 2) := by decide +kernel
theorem dX4_mostLeft_37 : decode cX4_mostLeft 37 = .ok (.irem, 1) := by decide +kernel
theorem dX4_mostLeft_38 : decode cX4_mostLeft 38 = .ok (.iload_n 1, 1) := by decide +kernel
theorem dX4_mostLeft_39 : decode cX4_mostLeft 39 = .ok (.invokevirtual 50, 3) := by decide +kernel
theorem dX4_mostLeft_42 : decode cX4_mostLeft 42 = .ok (.istore 5, 2) := by decide +kernel
theorem dX4_mostLeft_44 : decode cX4_mostLeft 44 = .ok (.iload 5, 2) := by decide +kernel
theorem dX4_mostLeft_46 : decode cX4_mostLeft 46 = .ok (.invokestatic 57, 3) := by decide +kernel
theorem dX4_mostLeft_49 : decode cX4_mostLeft 49 = .ok (.ifCond .eq 26, 3) := by decide +kernel
theorem dX4_mostLeft_52 : decode cX4_mostLeft 52 = .ok (.aload_n 0, 1) := by decide +kernel
theorem dX4_mostLeft_53 : decode cX4_mostLeft 53 = .ok (.getfield 18, 3) := by decide +kernel
theorem dX4_mostLeft_56 : decode cX4_mostLeft 56 = .ok (.iload 5, 2) := by decide +kernel
theorem dX4_mostLeft_58 : decode cX4_mostLeft 58 = .ok (.dup2, 1) := by decide +kernel
theorem dX4_mostLeft_59 : decode cX4_mostLeft 59 = .ok (.iaload, 1) := by decide +kernel
theorem dX4_mostLeft_60 : decode cX4_mostLeft 60 = .ok (.iconst 1, 1) := by decide +kernel
theorem dX4_mostLeft_61 : decode cX4_mostLeft 61 = .ok (.iadd, 1) := by decide +kernel
theorem dX4_mostLeft_62 : decode cX4_mostLeft 62 = .ok (.iastore, 1) := by decide +kernel
theorem dX4_mostLeft_63 : decode cX4_mostLeft 63 = .ok (.iload_n 2, 1) := by decide +kernel
theorem dX4_mostLeft_64 : decode cX4_mostLeft 64 = .ok (.aload_n 0, 1) := by decide +kernel
theorem dX4_mostLeft_65 : decode cX4_mostLeft 65 = .ok (.getfield 18, 3) := by decide +kernel
theorem dX4_mostLeft_68 : decode cX4_mostLeft 68 = .ok (.iload 5, 2) := by decide +kernel
theorem dX4_mostLeft_70 : decode cX4_mostLeft 70 = .ok (.iaload, 1) := by decide +kernel
theorem dX4_mostLeft_71 : decode cX4_mostLeft 71 = .ok (.invokestatic 73, 3) := by decide +kernel
theorem dX4_mostLeft_74 : decode cX4_mostLeft 74 = .ok (.istore_n 2, 1) := by decide +kernel
theorem dX4_mostLeft_75 : decode cX4_mostLeft 75 = .ok (.iinc 3 1, 3) := by decide +kernel
theorem dX4_mostLeft_78 : decode cX4_mostLeft 78 = .ok (.goto (-66), 3) := by decide +kernel
theorem dX4_mostLeft_81 : decode cX4_mostLeft 81 = .ok (.iload_n 2, 1) := by decide +kernel
theorem dX4_mostLeft_82 : decode cX4_mostLeft 82 = .ok (.ireturn, 1) := by decide +kernel
theorem dX5_init_0 : decode cX5_init 0 = .ok (.aload_n 0, 1) := by decide +kernel
theorem dX5_init_1 : decode cX5_init 1 = .ok (.invokespecial 3, 3) := by decide +kernel
theorem dX5_init_4 : decode cX5_init 4 = .ok (.aload_n 0, 1) := by decide +kernel
theorem dX5_init_5 : decode cX5_init 5 = .ok (.bipush 121, 2) := by decide +kernel
theorem dX5_init_7 : decode cX5_init 7 = .ok (.newarray .int, 2) := by decide +kernel
theorem dX5_init_9 : decode cX5_init 9 = .ok (.putfield 9, 3) := by decide +kernel
theorem dX5_init_12 : decode cX5_init 12 = .ok (.aload_n 0, 1) := by decide +kernel
theorem dX5_init_13 : decode cX5_init 13 = .ok (.bipush 11, 2) := by decide +kernel
theorem dX5_init_15 : decode cX5_init 15 = .ok (.newarray .int, 2) := by decide +kernel
theorem dX5_init_17 : decode cX5_init 17 = .ok (.putfield 15, 3) := by decide +kernel
theorem dX5_init_20 : decode cX5_init 20 = .ok (.return_, 1) := by decide +kernel
set_option maxRecDepth 20000 in
theorem ggX5_measure_X1_longBetween : GoodIn wsX5_measure wsX1_longBetween := goodIn_r _ [6, 7, 8, 9, 10, 23, 24, 25, 26, 27, 28, 29, 30, 31, 32, 33, 34] (by decide +kernel) (by decide +kernel)
set_option maxRecDepth 20000 in
theorem gX5_measure_X1_longBetween : GoodIn wsX5_measure (wsV RX5 18 RX1 yX1_longBetween wsX1_longBetween) := goodIn_app (goodIn_of _ (by decide +kernel)) ggX5_measure_X1_longBetween
set_option maxRecDepth 20000 in
theorem ggX5_measure_X5_shortenPast : GoodIn wsX5_measure wsX5_shortenPast := goodIn_r _ [15, 1, 16, 17, 18, 14, 19, 8, 9, 10, 20, 21, 22] (by decide +kernel) (by decide +kernel)
set_option maxRecDepth 20000 in
theorem gX5_measure_X5_shortenPast : GoodIn wsX5_measure (wsV RX5 24 RX5 yX5_shortenPast wsX5_shortenPast) := goodIn_app (goodIn_of _ (by decide +kernel)) ggX5_measure_X5_shortenPast
theorem dX5_measure_0 : decode cX5_measure 0 = .ok (.iconst 0, 1) := by decide +kernel
theorem dX5_measure_1 : decode cX5_measure 1 = .ok (.istore_n 2, 1) := by decide +kernel
theorem dX5_measure_2 : decode cX5_measure 2 = .ok (.iload_n 2, 1) := by decide +kernel
theorem dX5_measure_3 : decode cX5_measure 3 = .ok (.bipush 11, 2) := by decide +kernel
theorem dX5_measure_5 : decode cX5_measure 5 = .ok (.if_icmp .ge 67, 3) := by decide +kernel
theorem dX5_measure_8 : decode cX5_measure 8 = .ok (.iconst 0, 1) := by decide +kernel
theorem dX5_measure_9 : decode cX5_measure 9 = .ok (.istore_n 3, 1) := by decide +kernel
theorem dX5_measure_10 : decode cX5_measure 10 = .ok (.iload_n 3, 1) := by decide +kernel
theorem dX5_measure_11 : decode cX5_measure 11 = .ok (.bipush 11, 2) := by decide +kernel
theorem dX5_measure_13 : decode cX5_measure 13 = .ok (.if_icmp .ge 41, 3) := by decide +kernel
theorem dX5_measure_16 : decode cX5_measure 16 = .ok (.aload_n 1, 1) := by decide +kernel
theorem dX5_measure_17 : decode cX5_measure 17 = .ok (.iload_n 2, 1) := by decide +kernel
theorem dX5_measure_18 : decode cX5_measure 18 = .ok (.iload_n 3, 1) := by decide +kernel
theorem dX5_measure_19 : decode cX5_measure 19 = .ok (.invokevirtual 18, 3) := by decide +kernel
theorem dX5_measure_22 : decode cX5_measure 22 = .ok (.istore 4, 2) := by decide +kernel
theorem dX5_measure_24 : decode cX5_measure 24 = .ok (.aload_n 0, 1) := by decide +kernel
theorem dX5_measure_25 : decode cX5_measure 25 = .ok (.getfield 9, 3) := by decide +kernel
theorem dX5_measure_28 : decode cX5_measure 28 = .ok (.iload_n 2, 1) := by decide +kernel
theorem dX5_measure_29 : decode cX5_measure 29 = .ok (.bipush 11, 2) := by decide +kernel
theorem dX5_measure_31 : decode cX5_measure 31 = .ok (.imul, 1) := by decide +kernel
theorem dX5_measure_32 : decode cX5_measure 32 = .ok (.iload_n 3, 1) := by decide +kernel
theorem dX5_measure_33 : decode cX5_measure 33 = .ok (.iadd, 1) := by decide +kernel
theorem dX5_measure_34 : decode cX5_measure 34 = .ok (.iload 4, 2) := by decide +kernel
theorem dX5_measure_36 : decode cX5_measure 36 = .ok (.ifCond .le 8, 3) := by decide +kernel
theorem dX5_measure_39 : decode cX5_measure 39 = .ok (.iload 4, 2) := by decide +kernel
theorem dX5_measure_41 : decode cX5_measure 41 = .ok (.goto 6, 3) := by decide +kernel
theorem dX5_measure_44 : decode cX5_measure 44 = .ok (.sipush 1000, 3) := by decide +kernel
theorem dX5_measure_47 : decode cX5_measure 47 = .ok (.iastore, 1) := by decide +kernel
theorem dX5_measure_48 : decode cX5_measure 48 = .ok (.iinc 3 1, 3) := by decide +kernel
theorem dX5_measure_51 : decode cX5_measure 51 = .ok (.goto (-41), 3) := by decide +kernel
theorem dX5_measure_54 : decode cX5_measure 54 = .ok (.aload_n 0, 1) := by decide +kernel
theorem dX5_measure_55 : decode cX5_measure 55 = .ok (.getfield 9, 3) := by decide +kernel
theorem dX5_measure_58 : decode cX5_measure 58 = .ok (.iload_n 2, 1) := by decide +kernel
theorem dX5_measure_59 : decode cX5_measure 59 = .ok (.bipush 11, 2) := by decide +kernel
theorem dX5_measure_61 : decode cX5_measure 61 = .ok (.imul, 1) := by decide +kernel
theorem dX5_measure_62 : decode cX5_measure 62 = .ok (.iload_n 2, 1) := by decide +kernel
theorem dX5_measure_63 : decode cX5_measure 63 = .ok (.iadd, 1) := by decide +kernel
theorem dX5_measure_64 : decode cX5_measure 64 = .ok (.iconst 0, 1) := by decide +kernel
theorem dX5_measure_65 : decode cX5_measure 65 = .ok (.iastore, 1) := by decide +kernel
theorem dX5_measure_66 : decode cX5_measure 66 = .ok (.iinc 2 1, 3) := by decide +kernel
theorem dX5_measure_69 : decode cX5_measure 69 = .ok (.goto (-67), 3) := by decide +kernel
theorem dX5_measure_72 : decode cX5_measure 72 = .ok (.iconst 0, 1) := by decide +kernel
theorem dX5_measure_73 : decode cX5_measure 73 = .ok (.istore_n 2, 1) := by decide +kernel
theorem dX5_measure_74 : decode cX5_measure 74 = .ok (.iload_n 2, 1) := by decide +kernel
theorem dX5_measure_75 : decode cX5_measure 75 = .ok (.bipush 11, 2) := by decide +kernel
theorem dX5_measure_77 : decode cX5_measure 77 = .ok (.if_icmp .ge 29, 3) := by decide +kernel
theorem dX5_measure_80 : decode cX5_measure 80 = .ok (.iconst 0, 1) := by decide +kernel
theorem dX5_measure_81 : decode cX5_measure 81 = .ok (.istore_n 3, 1) := by decide +kernel
theorem dX5_measure_82 : decode cX5_measure 82 = .ok (.iload_n 3, 1) := by decide +kernel
theorem dX5_measure_83 : decode cX5_measure 83 = .ok (.bipush 11, 2) := by decide +kernel
theorem dX5_measure_85 : decode cX5_measure 85 = .ok (.if_icmp .ge 15, 3) := by decide +kernel
theorem dX5_measure_88 : decode cX5_measure 88 = .ok (.aload_n 0, 1) := by decide +kernel
theorem dX5_measure_89 : decode cX5_measure 89 = .ok (.iload_n 2, 1) := by decide +kernel
theorem dX5_measure_90 : decode cX5_measure 90 = .ok (.iload_n 3, 1) := by decide +kernel
theorem dX5_measure_91 : decode cX5_measure 91 = .ok (.invokevirtual 24, 3) := by decide +kernel
theorem dX5_measure_94 : decode cX5_measure 94 = .ok (.iinc 3 1, 3) := by decide +kernel
theorem dX5_measure_97 : decode cX5_measure 97 = .ok (.goto (-15), 3) := by decide +kernel
theorem dX5_measure_100 : decode cX5_measure 100 = .ok (.iinc 2 1, 3) := by decide +kernel
theorem dX5_measure_103 : decode cX5_measure 103 = .ok (.goto (-29), 3) := by decide +kernel
theorem dX5_measure_106 : decode cX5_measure 106 = .ok (.return_, 1) := by decide +kernel
set_option maxRecDepth 20000 in
theorem ggX5_shortenPast_X5_leastWay : GoodIn wsX5_shortenPast wsX5_leastWay := goodIn_r _ [6, 1, 7, 8, 9, 10, 11, 12] (by decide +kernel) (by decide +kernel)
set_option maxRecDepth 20000 in
theorem gX5_shortenPast_X5_leastWay : GoodIn wsX5_shortenPast (wsV RX5 28 RX5 yX5_leastWay wsX5_leastWay) := goodIn_app (goodIn_of _ (by decide +kernel)) ggX5_shortenPast_X5_leastWay
set_option maxRecDepth 20000 in
theorem ggX5_shortenPast_X6_isPlace : GoodIn wsX5_shortenPast wsX6_isPlace := goodIn_r _ [9] (by decide +kernel) (by decide +kernel)
set_option maxRecDepth 20000 in
theorem gX5_shortenPast_X6_isPlace_n31 : GoodIn wsX5_shortenPast (wsX6_isPlace) := ggX5_shortenPast_X6_isPlace
theorem dX5_shortenPast_0 : decode cX5_shortenPast 0 = .ok (.iconst 0, 1) := by decide +kernel
theorem dX5_shortenPast_1 : decode cX5_shortenPast 1 = .ok (.istore_n 3, 1) := by decide +kernel
theorem dX5_shortenPast_2 : decode cX5_shortenPast 2 = .ok (.iload_n 3, 1) := by decide +kernel
theorem dX5_shortenPast_3 : decode cX5_shortenPast 3 = .ok (.bipush 11, 2) := by decide +kernel
theorem dX5_shortenPast_5 : decode cX5_shortenPast 5 = .ok (.if_icmp .ge 55, 3) := by decide +kernel
theorem dX5_shortenPast_8 : decode cX5_shortenPast 8 = .ok (.aload_n 0, 1) := by decide +kernel
theorem dX5_shortenPast_9 : decode cX5_shortenPast 9 = .ok (.iload_n 2, 1) := by decide +kernel
theorem dX5_shortenPast_10 : decode cX5_shortenPast 10 = .ok (.iload_n 1, 1) := by decide +kernel
theorem dX5_shortenPast_11 : decode cX5_shortenPast 11 = .ok (.invokevirtual 28, 3) := by decide +kernel
theorem dX5_shortenPast_14 : decode cX5_shortenPast 14 = .ok (.aload_n 0, 1) := by decide +kernel
theorem dX5_shortenPast_15 : decode cX5_shortenPast 15 = .ok (.iload_n 1, 1) := by decide +kernel
theorem dX5_shortenPast_16 : decode cX5_shortenPast 16 = .ok (.iload_n 3, 1) := by decide +kernel
theorem dX5_shortenPast_17 : decode cX5_shortenPast 17 = .ok (.invokevirtual 28, 3) := by decide +kernel
theorem dX5_shortenPast_20 : decode cX5_shortenPast 20 = .ok (.iadd, 1) := by decide +kernel
theorem dX5_shortenPast_21 : decode cX5_shortenPast 21 = .ok (.istore 4, 2) := by decide +kernel
theorem dX5_shortenPast_23 : decode cX5_shortenPast 23 = .ok (.iload 4, 2) := by decide +kernel
theorem dX5_shortenPast_25 : decode cX5_shortenPast 25 = .ok (.aload_n 0, 1) := by decide +kernel
theorem dX5_shortenPast_26 : decode cX5_shortenPast 26 = .ok (.iload_n 2, 1) := by decide +kernel
theorem dX5_shortenPast_27 : decode cX5_shortenPast 27 = .ok (.iload_n 3, 1) := by decide +kernel
theorem dX5_shortenPast_28 : decode cX5_shortenPast 28 = .ok (.invokevirtual 28, 3) := by decide +kernel
theorem dX5_shortenPast_31 : decode cX5_shortenPast 31 = .ok (.if_icmp .ge 23, 3) := by decide +kernel
theorem dX5_shortenPast_34 : decode cX5_shortenPast 34 = .ok (.iload_n 2, 1) := by decide +kernel
theorem dX5_shortenPast_35 : decode cX5_shortenPast 35 = .ok (.invokestatic 31, 3) := by decide +kernel
theorem dX5_shortenPast_38 : decode cX5_shortenPast 38 = .ok (.ifCond .eq 16, 3) := by decide +kernel
theorem dX5_shortenPast_41 : decode cX5_shortenPast 41 = .ok (.aload_n 0, 1) := by decide +kernel
theorem dX5_shortenPast_42 : decode cX5_shortenPast 42 = .ok (.getfield 9, 3) := by decide +kernel
theorem dX5_shortenPast_45 : decode cX5_shortenPast 45 = .ok (.iload_n 2, 1) := by decide +kernel
theorem dX5_shortenPast_46 : decode cX5_shortenPast 46 = .ok (.bipush 11, 2) := by decide +kernel
theorem dX5_shortenPast_48 : decode cX5_shortenPast 48 = .ok (.imul, 1) := by decide +kernel
theorem dX5_shortenPast_49 : decode cX5_shortenPast 49 = .ok (.iload_n 3, 1) := by decide +kernel
theorem dX5_shortenPast_50 : decode cX5_shortenPast 50 = .ok (.iadd, 1) := by decide +kernel
theorem dX5_shortenPast_51 : decode cX5_shortenPast 51 = .ok (.iload 4, 2) := by decide +kernel
theorem dX5_shortenPast_53 : decode cX5_shortenPast 53 = .ok (.iastore, 1) := by decide +kernel
theorem dX5_shortenPast_54 : decode cX5_shortenPast 54 = .ok (.iinc 3 1, 3) := by decide +kernel
theorem dX5_shortenPast_57 : decode cX5_shortenPast 57 = .ok (.goto (-55), 3) := by decide +kernel
theorem dX5_shortenPast_60 : decode cX5_shortenPast 60 = .ok (.return_, 1) := by decide +kernel
set_option maxRecDepth 20000 in
theorem ggX5_leastWay_X6_isPlace : GoodIn wsX5_leastWay wsX6_isPlace := goodIn_r _ [4] (by decide +kernel) (by decide +kernel)
set_option maxRecDepth 20000 in
theorem gX5_leastWay_X6_isPlace_n31 : GoodIn wsX5_leastWay (wsX6_isPlace) := ggX5_leastWay_X6_isPlace
theorem dX5_leastWay_0 : decode cX5_leastWay 0 = .ok (.iload_n 1, 1) := by decide +kernel
theorem dX5_leastWay_1 : decode cX5_leastWay 1 = .ok (.invokestatic 31, 3) := by decide +kernel
theorem dX5_leastWay_4 : decode cX5_leastWay 4 = .ok (.ifCond .eq 24, 3) := by decide +kernel
theorem dX5_leastWay_7 : decode cX5_leastWay 7 = .ok (.iload_n 2, 1) := by decide +kernel
theorem dX5_leastWay_8 : decode cX5_leastWay 8 = .ok (.invokestatic 31, 3) := by decide +kernel
theorem dX5_leastWay_11 : decode cX5_leastWay 11 = .ok (.ifCond .eq 17, 3) := by decide +kernel
theorem dX5_leastWay_14 : decode cX5_leastWay 14 = .ok (.aload_n 0, 1) := by decide +kernel
theorem dX5_leastWay_15 : decode cX5_leastWay 15 = .ok (.getfield 9, 3) := by decide +kernel
theorem dX5_leastWay_18 : decode cX5_leastWay 18 = .ok (.iload_n 1, 1) := by decide +kernel
theorem dX5_leastWay_19 : decode cX5_leastWay 19 = .ok (.bipush 11, 2) := by decide +kernel
theorem dX5_leastWay_21 : decode cX5_leastWay 21 = .ok (.imul, 1) := by decide +kernel
theorem dX5_leastWay_22 : decode cX5_leastWay 22 = .ok (.iload_n 2, 1) := by decide +kernel
theorem dX5_leastWay_23 : decode cX5_leastWay 23 = .ok (.iadd, 1) := by decide +kernel
theorem dX5_leastWay_24 : decode cX5_leastWay 24 = .ok (.iaload, 1) := by decide +kernel
theorem dX5_leastWay_25 : decode cX5_leastWay 25 = .ok (.goto 6, 3) := by decide +kernel
theorem dX5_leastWay_28 : decode cX5_leastWay 28 = .ok (.sipush 1000, 3) := by decide +kernel
theorem dX5_leastWay_31 : decode cX5_leastWay 31 = .ok (.ireturn, 1) := by decide +kernel
set_option maxRecDepth 20000 in
theorem ggX5_howFar_X5_leastWay : GoodIn wsX5_howFar wsX5_leastWay := goodIn_r _ [5, 6, 7, 8, 9, 10, 11, 12] (by decide +kernel) (by decide +kernel)
set_option maxRecDepth 20000 in
theorem gX5_howFar_X5_leastWay : GoodIn wsX5_howFar (wsV RX5 28 RX5 yX5_leastWay wsX5_leastWay) := goodIn_app (goodIn_of _ (by decide +kernel)) ggX5_howFar_X5_leastWay
theorem dX5_howFar_0 : decode cX5_howFar 0 = .ok (.aload_n 0, 1) := by decide +kernel
theorem dX5_howFar_1 : decode cX5_howFar 1 = .ok (.iload_n 1, 1) := by decide +kernel
theorem dX5_howFar_2 : decode cX5_howFar 2 = .ok (.iload_n 2, 1) := by decide +kernel
theorem dX5_howFar_3 : decode cX5_howFar 3 = .ok (.invokevirtual 28, 3) := by decide +kernel
theorem dX5_howFar_6 : decode cX5_howFar 6 = .ok (.istore_n 3, 1) := by decide +kernel
theorem dX5_howFar_7 : decode cX5_howFar 7 = .ok (.iload_n 3, 1) := by decide +kernel
theorem dX5_howFar_8 : decode cX5_howFar 8 = .ok (.sipush 1000, 3) := by decide +kernel
theorem dX5_howFar_11 : decode cX5_howFar 11 = .ok (.if_icmp .ge 7, 3) := by decide +kernel
theorem dX5_howFar_14 : decode cX5_howFar 14 = .ok (.iload_n 3, 1) := by decide +kernel
theorem dX5_howFar_15 : decode cX5_howFar 15 = .ok (.goto 5, 3) := by decide +kernel
theorem dX5_howFar_18 : decode cX5_howFar 18 = .ok (.bipush (-6), 2) := by decide +kernel
theorem dX5_howFar_20 : decode cX5_howFar 20 = .ok (.ireturn, 1) := by decide +kernel
set_option maxRecDepth 20000 in
theorem ggX5_nextPlace_X5_howFar : GoodIn wsX5_nextPlace wsX5_howFar := goodIn_r _ [5, 6, 7, 8, 4, 9, 10, 11, 12, 13, 20, 21, 22] (by decide +kernel) (by decide +kernel)
set_option maxRecDepth 20000 in
theorem gX5_nextPlace_X5_howFar : GoodIn wsX5_nextPlace (wsV RX5 35 RX5 yX5_howFar wsX5_howFar) := goodIn_app (goodIn_of _ (by decide +kernel)) ggX5_nextPlace_X5_howFar
set_option maxRecDepth 20000 in
theorem ggX5_nextPlace_X1_longBetween : GoodIn wsX5_nextPlace wsX1_longBetween := goodIn_r _ [18, 19, 11, 12, 13, 23, 24, 25, 26, 27, 28, 29, 30, 31, 32, 33, 34] (by decide +kernel) (by decide +kernel)
set_option maxRecDepth 20000 in
theorem gX5_nextPlace_X1_longBetween : GoodIn wsX5_nextPlace (wsV RX5 18 RX1 yX1_longBetween wsX1_longBetween) := goodIn_app (goodIn_of _ (by decide +kernel)) ggX5_nextPlace_X1_longBetween
set_option maxRecDepth 20000 in
theorem ggX5_nextPlace_X5_leastWay : GoodIn wsX5_nextPlace wsX5_leastWay := goodIn_r _ [9, 10, 11, 12, 13, 20, 21, 22] (by decide +kernel) (by decide +kernel)
set_option maxRecDepth 20000 in
theorem gX5_nextPlace_X5_leastWay : GoodIn wsX5_nextPlace (wsV RX5 28 RX5 yX5_leastWay wsX5_leastWay) := goodIn_app (goodIn_of _ (by decide +kernel)) ggX5_nextPlace_X5_leastWay
theorem dX5_nextPlace_0 : decode cX5_nextPlace 0 = .ok (.aload_n 0, 1) := by decide +kernel
theorem dX5_nextPlace_1 : decode cX5_nextPlace 1 = .ok (.iload_n 2, 1) := by decide +kernel
theorem dX5_nextPlace_2 : decode cX5_nextPlace 2 = .ok (.iload_n 3, 1) := by decide +kernel
theorem dX5_nextPlace_3 : decode cX5_nextPlace 3 = .ok (.invokevirtual 35, 3) := by decide +kernel
theorem dX5_nextPlace_6 : decode cX5_nextPlace 6 = .ok (.istore 4, 2) := by decide +kernel
theorem dX5_nextPlace_8 : decode cX5_nextPlace 8 = .ok (.iload 4, 2) := by decide +kernel
theorem dX5_nextPlace_10 : decode cX5_nextPlace 10 = .ok (.bipush (-6), 2) := by decide +kernel
theorem dX5_nextPlace_12 : decode cX5_nextPlace 12 = .ok (.if_icmp .eq 8, 3) := by decide +kernel
theorem dX5_nextPlace_15 : decode cX5_nextPlace 15 = .ok (.iload_n 2, 1) := by decide +kernel
theorem dX5_nextPlace_16 : decode cX5_nextPlace 16 = .ok (.iload_n 3, 1) := by decide +kernel
theorem dX5_nextPlace_17 : decode cX5_nextPlace 17 = .ok (.if_icmp .ne 6, 3) := by decide +kernel
theorem dX5_nextPlace_20 : decode cX5_nextPlace 20 = .ok (.bipush (-6), 2) := by decide +kernel
theorem dX5_nextPlace_22 : decode cX5_nextPlace 22 = .ok (.ireturn, 1) := by decide +kernel
theorem dX5_nextPlace_23 : decode cX5_nextPlace 23 = .ok (.iconst 0, 1) := by decide +kernel
theorem dX5_nextPlace_24 : decode cX5_nextPlace 24 = .ok (.istore 5, 2) := by decide +kernel
theorem dX5_nextPlace_26 : decode cX5_nextPlace 26 = .ok (.iload 5, 2) := by decide +kernel
theorem dX5_nextPlace_28 : decode cX5_nextPlace 28 = .ok (.bipush 11, 2) := by decide +kernel
theorem dX5_nextPlace_30 : decode cX5_nextPlace 30 = .ok (.if_icmp .ge 41, 3) := by decide +kernel
theorem dX5_nextPlace_33 : decode cX5_nextPlace 33 = .ok (.aload_n 1, 1) := by decide +kernel
theorem dX5_nextPlace_34 : decode cX5_nextPlace 34 = .ok (.iload_n 2, 1) := by decide +kernel
theorem dX5_nextPlace_35 : decode cX5_nextPlace 35 = .ok (.iload 5, 2) := by decide +kernel
theorem dX5_nextPlace_37 : decode cX5_nextPlace 37 = .ok (.invokevirtual 18, 3) := by decide +kernel
theorem dX5_nextPlace_40 : decode cX5_nextPlace 40 = .ok (.istore 6, 2) := by decide +kernel
theorem dX5_nextPlace_42 : decode cX5_nextPlace 42 = .ok (.iload 6, 2) := by decide +kernel
theorem dX5_nextPlace_44 : decode cX5_nextPlace 44 = .ok (.ifCond .le 21, 3) := by decide +kernel
theorem dX5_nextPlace_47 : decode cX5_nextPlace 47 = .ok (.iload 6, 2) := by decide +kernel
theorem dX5_nextPlace_49 : decode cX5_nextPlace 49 = .ok (.aload_n 0, 1) := by decide +kernel
theorem dX5_nextPlace_50 : decode cX5_nextPlace 50 = .ok (.iload 5, 2) := by decide +kernel
theorem dX5_nextPlace_52 : decode cX5_nextPlace 52 = .ok (.iload_n 3, 1) := by decide +kernel
theorem dX5_nextPlace_53 : decode cX5_nextPlace 53 = .ok (.invokevirtual 28, 3) := by decide +kernel
theorem dX5_nextPlace_56 : decode cX5_nextPlace 56 = .ok (.iadd, 1) := by decide +kernel
theorem dX5_nextPlace_57 : decode cX5_nextPlace 57 = .ok (.iload 4, 2) := by decide +kernel
theorem dX5_nextPlace_59 : decode cX5_nextPlace 59 = .ok (.if_icmp .ne 6, 3) := by decide +kernel
theorem dX5_nextPlace_62 : decode cX5_nextPlace 62 = .ok (.iload 5, 2) := by decide +kernel
theorem dX5_nextPlace_64 : decode cX5_nextPlace 64 = .ok (.ireturn, 1) := by decide +kernel
theorem dX5_nextPlace_65 : decode cX5_nextPlace 65 = .ok (.iinc 5 1, 3) := by decide +kernel
theorem dX5_nextPlace_68 : decode cX5_nextPlace 68 = .ok (.goto (-42), 3) := by decide +kernel
theorem dX5_nextPlace_71 : decode cX5_nextPlace 71 = .ok (.bipush (-6), 2) := by decide +kernel
theorem dX5_nextPlace_73 : decode cX5_nextPlace 73 = .ok (.ireturn, 1) := by decide +kernel
set_option maxRecDepth 20000 in
theorem ggX5_bestRound_X5_measure : GoodIn wsX5_bestRound wsX5_measure := goodIn_r _ [7, 8, 9, 10, 11, 12, 13, 14, 15, 16, 17, 18, 19, 20, 6, 21, 22, 23, 24, 25, 69, 70, 71, 72, 73, 74, 75, 76, 77, 78, 79, 80, 81, 82, 83] (by decide +kernel) (by decide +kernel)
set_option maxRecDepth 20000 in
theorem gX5_bestRound_X5_measure : GoodIn wsX5_bestRound (wsV RX5 38 RX5 yX5_measure wsX5_measure) := goodIn_app (goodIn_of _ (by decide +kernel)) ggX5_bestRound_X5_measure
set_option maxRecDepth 20000 in
theorem ggX5_bestRound_J7_fill_53178 : GoodIn wsX5_bestRound wsJ7_fill_53178 := goodIn_r _ [29] (by decide +kernel) (by decide +kernel)
set_option maxRecDepth 20000 in
theorem gX5_bestRound_J7_fill_53178 : GoodIn wsX5_bestRound (va_wsS RX5 45 yJ7_fill_53178 wsJ7_fill_53178) := goodIn_app (goodIn_of _ (by decide +kernel)) ggX5_bestRound_J7_fill_53178
set_option maxRecDepth 20000 in
theorem ggX5_bestRound_X5_leastWay : GoodIn wsX5_bestRound wsX5_leastWay := goodIn_r _ [25, 8, 15, 16, 17, 69, 70, 71] (by decide +kernel) (by decide +kernel)
set_option maxRecDepth 20000 in
theorem gX5_bestRound_X5_leastWay : GoodIn wsX5_bestRound (wsV RX5 28 RX5 yX5_leastWay wsX5_leastWay) := goodIn_app (goodIn_of _ (by decide +kernel)) ggX5_bestRound_X5_leastWay
set_option maxRecDepth 20000 in
theorem ggX5_bestRound_X5_warm : GoodIn wsX5_bestRound wsX5_warm := goodIn_r _ [33, 34, 35, 36, 37, 1, 38, 39, 40, 12, 41, 42, 43, 16, 44, 45, 46, 47, 48, 49, 50, 51, 52, 6, 53, 54, 55, 69, 70, 71, 72, 73, 74, 75, 76, 77, 78, 79, 80, 81, 82, 83] (by decide +kernel) (by decide +kernel)
set_option maxRecDepth 20000 in
theorem gX5_bestRound_X5_warm : GoodIn wsX5_bestRound (wsV RX5 51 RX5 yX5_warm wsX5_warm) := goodIn_app (goodIn_of _ (by decide +kernel)) ggX5_bestRound_X5_warm
set_option maxRecDepth 20000 in
theorem ggX5_bestRound_X5_goOn : GoodIn wsX5_bestRound wsX5_goOn := goodIn_r _ [59, 50, 51, 52, 6, 53, 1, 54, 16, 55, 43, 44, 60, 61, 22, 23, 24, 25, 8, 15, 17, 30, 31, 32, 33, 34, 35, 36, 37, 38, 39, 40, 12, 41, 42, 45, 46, 47, 48, 49, 69, 70, 71, 72, 73, 74, 75, 76, 77, 78, 79, 80, 81, 82, 83] (by decide +kernel) (by decide +kernel)
set_option maxRecDepth 20000 in
theorem gX5_bestRound_X5_goOn : GoodIn wsX5_bestRound (wsV RX5 55 RX5 yX5_goOn wsX5_goOn) := goodIn_app (goodIn_of _ (by decide +kernel)) ggX5_bestRound_X5_goOn
set_option maxRecDepth 20000 in
theorem ggX5_bestRound_J6_bitCount_0f7a4 : GoodIn wsX5_bestRound wsJ6_bitCount_0f7a4 := goodIn_r _ [65, 66, 67, 68] (by decide +kernel) (by decide +kernel)
set_option maxRecDepth 20000 in
theorem gX5_bestRound_J6_bitCount_0f7a4 : GoodIn wsX5_bestRound (va_wsS RX5 59 yJ6_bitCount_0f7a4 wsJ6_bitCount_0f7a4) := goodIn_app (goodIn_of _ (by decide +kernel)) ggX5_bestRound_J6_bitCount_0f7a4
theorem dX5_bestRound_0 : decode cX5_bestRound 0 = .ok (.aload_n 0, 1) := by decide +kernel
theorem dX5_bestRound_1 : decode cX5_bestRound 1 = .ok (.aload_n 1, 1) := by decide +kernel
theorem dX5_bestRound_2 : decode cX5_bestRound 2 = .ok (.invokevirtual 38, 3) := by decide +kernel
theorem dX5_bestRound_5 : decode cX5_bestRound 5 = .ok (.aload_n 0, 1) := by decide +kernel
theorem dX5_bestRound_6 : decode cX5_bestRound 6 = .ok (.getfield 42, 3) := by decide +kernel
theorem dX5_bestRound_9 : decode cX5_bestRound 9 = .ok (.ifnonnull 12, 3) := by decide +kernel
theorem dX5_bestRound_12 : decode cX5_bestRound 12 = .ok (.aload_n 0, 1) := by decide +kernel
theorem dX5_bestRound_13 : decode cX5_bestRound 13 = .ok (.sipush 10240, 3) := by decide +kernel
theorem dX5_bestRound_16 : decode cX5_bestRound 16 = .ok (.newarray .int, 2) := by decide +kernel
theorem dX5_bestRound_18 : decode cX5_bestRound 18 = .ok (.putfield 42, 3) := by decide +kernel
theorem dX5_bestRound_21 : decode cX5_bestRound 21 = .ok (.aload_n 0, 1) := by decide +kernel
theorem dX5_bestRound_22 : decode cX5_bestRound 22 = .ok (.getfield 42, 3) := by decide +kernel
theorem dX5_bestRound_25 : decode cX5_bestRound 25 = .ok (.iconst (-1), 1) := by decide +kernel
theorem dX5_bestRound_26 : decode cX5_bestRound 26 = .ok (.invokestatic 45, 3) := by decide +kernel
theorem dX5_bestRound_29 : decode cX5_bestRound 29 = .ok (.iconst 0, 1) := by decide +kernel
theorem dX5_bestRound_30 : decode cX5_bestRound 30 = .ok (.istore_n 3, 1) := by decide +kernel
theorem dX5_bestRound_31 : decode cX5_bestRound 31 = .ok (.iload_n 3, 1) := by decide +kernel
theorem dX5_bestRound_32 : decode cX5_bestRound 32 = .ok (.bipush 10, 2) := by decide +kernel
theorem dX5_bestRound_34 : decode cX5_bestRound 34 = .ok (.if_icmp .ge 27, 3) := by decide +kernel
theorem dX5_bestRound_37 : decode cX5_bestRound 37 = .ok (.aload_n 0, 1) := by decide +kernel
theorem dX5_bestRound_38 : decode cX5_bestRound 38 = .ok (.aload_n 1, 1) := by decide +kernel
theorem dX5_bestRound_39 : decode cX5_bestRound 39 = .ok (.iconst 1, 1) := by decide +kernel
theorem dX5_bestRound_40 : decode cX5_bestRound 40 = .ok (.iload_n 3, 1) := by decide +kernel
theorem dX5_bestRound_41 : decode cX5_bestRound 41 = .ok (.ishl, 1) := by decide +kernel
theorem dX5_bestRound_42 : decode cX5_bestRound 42 = .ok (.iload_n 3, 1) := by decide +kernel
theorem dX5_bestRound_43 : decode cX5_bestRound 43 = .ok (.iload_n 2, 1) := by decide +kernel
theorem dX5_bestRound_44 : decode cX5_bestRound 44 = .ok (.aload_n 0, 1) := by decide +kernel
theorem dX5_bestRound_45 : decode cX5_bestRound 45 = .ok (.bipush 10, 2) := by decide +kernel
theorem dX5_bestRound_47 : decode cX5_bestRound 47 = .ok (.iload_n 3, 1) := by decide +kernel
theorem dX5_bestRound_48 : decode cX5_bestRound 48 = .ok (.invokevirtual 28, 3) := by decide +kernel
theorem dX5_bestRound_51 : decode cX5_bestRound 51 = .ok (.isub, 1) := by decide +kernel
theorem dX5_bestRound_52 : decode cX5_bestRound 52 = .ok (.invokevirtual 51, 3) := by decide +kernel
theorem dX5_bestRound_55 : decode cX5_bestRound 55 = .ok (.iinc 3 1, 3) := by decide +kernel
theorem dX5_bestRound_58 : decode cX5_bestRound 58 = .ok (.goto (-27), 3) := by decide +kernel
theorem dX5_bestRound_61 : decode cX5_bestRound 61 = .ok (.iconst 0, 1) := by decide +kernel
theorem dX5_bestRound_62 : decode cX5_bestRound 62 = .ok (.istore_n 3, 1) := by decide +kernel
theorem dX5_bestRound_63 : decode cX5_bestRound 63 = .ok (.iconst 1, 1) := by decide +kernel
theorem dX5_bestRound_64 : decode cX5_bestRound 64 = .ok (.istore 4, 2) := by decide +kernel
theorem dX5_bestRound_66 : decode cX5_bestRound 66 = .ok (.iload 4, 2) := by decide +kernel
theorem dX5_bestRound_68 : decode cX5_bestRound 68 = .ok (.sipush 1024, 3) := by decide +kernel
theorem dX5_bestRound_71 : decode cX5_bestRound 71 = .ok (.if_icmp .ge 34, 3) := by decide +kernel
theorem dX5_bestRound_74 : decode cX5_bestRound 74 = .ok (.aload_n 0, 1) := by decide +kernel
theorem dX5_bestRound_75 : decode cX5_bestRound 75 = .ok (.aload_n 1, 1) := by decide +kernel
theorem dX5_bestRound_76 : decode cX5_bestRound 76 = .ok (.iload 4, 2) := by decide +kernel
theorem dX5_bestRound_78 : decode cX5_bestRound 78 = .ok (.invokevirtual 55, 3) := by decide +kernel
theorem dX5_bestRound_81 : decode cX5_bestRound 81 = .ok (.ifCond .eq 18, 3) := by decide +kernel
theorem dX5_bestRound_84 : decode cX5_bestRound 84 = .ok (.iload 4, 2) := by decide +kernel
theorem dX5_bestRound_86 : decode cX5_bestRound 86 = .ok (.invokestatic 59, 3) := by decide +kernel
theorem dX5_bestRound_89 : decode cX5_bestRound 89 = .ok (.iload_n 3, 1) := by decide +kernel
theorem dX5_bestRound_90 : decode cX5_bestRound 90 = .ok (.invokestatic 59, 3) := by decide +kernel
theorem dX5_bestRound_93 : decode cX5_bestRound 93 = .ok (.if_icmp .le 6, 3) := by decide +kernel
theorem dX5_bestRound_96 : decode cX5_bestRound 96 = .ok (.iload 4, 2) := by decide +kernel
theorem dX5_bestRound_98 : decode cX5_bestRound 98 = .ok (.istore_n 3, 1) := by decide +kernel
theorem dX5_bestRound_99 : decode cX5_bestRound 99 = .ok (.iinc 4 1, 3) := by decide +kernel
theorem dX5_bestRound_102 : decode cX5_bestRound 102 = .ok (.goto (-36), 3) := by decide +kernel
theorem dX5_bestRound_105 : decode cX5_bestRound 105 = .ok (.iload_n 3, 1) := by decide +kernel
theorem dX5_bestRound_106 : decode cX5_bestRound 106 = .ok (.ireturn, 1) := by decide +kernel
set_option maxRecDepth 20000 in
theorem ggX5_goOn_X5_heatLeft : GoodIn wsX5_goOn wsX5_heatLeft := goodIn_r _ [5, 6, 7, 8, 9, 10, 11, 40, 41, 42] (by decide +kernel) (by decide +kernel)
set_option maxRecDepth 20000 in
theorem gX5_goOn_X5_heatLeft : GoodIn wsX5_goOn (wsV RX5 65 RX5 yX5_heatLeft wsX5_heatLeft) := goodIn_app (goodIn_of _ (by decide +kernel)) ggX5_goOn_X5_heatLeft
set_option maxRecDepth 20000 in
theorem ggX5_goOn_X6_isIn : GoodIn wsX5_goOn wsX6_isIn := goodIn_r _ [13] (by decide +kernel) (by decide +kernel)
set_option maxRecDepth 20000 in
theorem gX5_goOn_X6_isIn_n68 : GoodIn wsX5_goOn (wsX6_isIn) := ggX5_goOn_X6_isIn
set_option maxRecDepth 20000 in
theorem ggX5_goOn_X5_leastWay : GoodIn wsX5_goOn wsX5_leastWay := goodIn_r _ [17, 18, 19, 8, 20, 40, 41, 42] (by decide +kernel) (by decide +kernel)
set_option maxRecDepth 20000 in
theorem gX5_goOn_X5_leastWay : GoodIn wsX5_goOn (wsV RX5 28 RX5 yX5_leastWay wsX5_leastWay) := goodIn_app (goodIn_of _ (by decide +kernel)) ggX5_goOn_X5_leastWay
set_option maxRecDepth 20000 in
theorem ggX5_goOn_X5_warm : GoodIn wsX5_goOn wsX5_warm := goodIn_r _ [24, 25, 26, 27, 28, 6, 29, 30, 31, 32, 33, 34, 10, 8, 11, 35, 36, 37, 38, 39, 1, 2, 3, 4, 5, 7, 9, 40, 41, 42, 43, 44, 45, 46, 47, 48, 49, 50, 51, 52, 53, 54] (by decide +kernel) (by decide +kernel)
set_option maxRecDepth 20000 in
theorem gX5_goOn_X5_warm : GoodIn wsX5_goOn (wsV RX5 51 RX5 yX5_warm wsX5_warm) := goodIn_app (goodIn_of _ (by decide +kernel)) ggX5_goOn_X5_warm
theorem dX5_goOn_0 : decode cX5_goOn 0 = .ok (.iconst 0, 1) := by decide +kernel
theorem dX5_goOn_1 : decode cX5_goOn 1 = .ok (.istore_n 3, 1) := by decide +kernel
theorem dX5_goOn_2 : decode cX5_goOn 2 = .ok (.iconst 0, 1) := by decide +kernel
theorem dX5_goOn_3 : decode cX5_goOn 3 = .ok (.istore 4, 2) := by decide +kernel
theorem dX5_goOn_5 : decode cX5_goOn 5 = .ok (.iload 4, 2) := by decide +kernel
theorem dX5_goOn_7 : decode cX5_goOn 7 = .ok (.bipush 10, 2) := by decide +kernel
theorem dX5_goOn_9 : decode cX5_goOn 9 = .ok (.if_icmp .ge 78, 3) := by decide +kernel
theorem dX5_goOn_12 : decode cX5_goOn 12 = .ok (.aload_n 0, 1) := by decide +kernel
theorem dX5_goOn_13 : decode cX5_goOn 13 = .ok (.iload_n 2, 1) := by decide +kernel
theorem dX5_goOn_14 : decode cX5_goOn 14 = .ok (.iload 4, 2) := by decide +kernel
theorem dX5_goOn_16 : decode cX5_goOn 16 = .ok (.invokevirtual 65, 3) := by decide +kernel
theorem dX5_goOn_19 : decode cX5_goOn 19 = .ok (.istore 5, 2) := by decide +kernel
theorem dX5_goOn_21 : decode cX5_goOn 21 = .ok (.iload 5, 2) := by decide +kernel
theorem dX5_goOn_23 : decode cX5_goOn 23 = .ok (.iconst (-1), 1) := by decide +kernel
theorem dX5_goOn_24 : decode cX5_goOn 24 = .ok (.if_icmp .ne 6, 3) := by decide +kernel
theorem dX5_goOn_27 : decode cX5_goOn 27 = .ok (.goto 54, 3) := by decide +kernel
theorem dX5_goOn_30 : decode cX5_goOn 30 = .ok (.iconst 1, 1) := by decide +kernel
theorem dX5_goOn_31 : decode cX5_goOn 31 = .ok (.istore_n 3, 1) := by decide +kernel
theorem dX5_goOn_32 : decode cX5_goOn 32 = .ok (.iconst 0, 1) := by decide +kernel
theorem dX5_goOn_33 : decode cX5_goOn 33 = .ok (.istore 6, 2) := by decide +kernel
theorem dX5_goOn_35 : decode cX5_goOn 35 = .ok (.iload 6, 2) := by decide +kernel
theorem dX5_goOn_37 : decode cX5_goOn 37 = .ok (.bipush 10, 2) := by decide +kernel
theorem dX5_goOn_39 : decode cX5_goOn 39 = .ok (.if_icmp .ge 42, 3) := by decide +kernel
theorem dX5_goOn_42 : decode cX5_goOn 42 = .ok (.iload 6, 2) := by decide +kernel
theorem dX5_goOn_44 : decode cX5_goOn 44 = .ok (.iload_n 2, 1) := by decide +kernel
theorem dX5_goOn_45 : decode cX5_goOn 45 = .ok (.invokestatic 68, 3) := by decide +kernel
theorem dX5_goOn_48 : decode cX5_goOn 48 = .ok (.ifCond .ne 27, 3) := by decide +kernel
theorem dX5_goOn_51 : decode cX5_goOn 51 = .ok (.aload_n 0, 1) := by decide +kernel
theorem dX5_goOn_52 : decode cX5_goOn 52 = .ok (.aload_n 1, 1) := by decide +kernel
theorem dX5_goOn_53 : decode cX5_goOn 53 = .ok (.iload_n 2, 1) := by decide +kernel
theorem dX5_goOn_54 : decode cX5_goOn 54 = .ok (.iconst 1, 1) := by decide +kernel
theorem dX5_goOn_55 : decode cX5_goOn 55 = .ok (.iload 6, 2) := by decide +kernel
theorem dX5_goOn_57 : decode cX5_goOn 57 = .ok (.ishl, 1) := by decide +kernel
theorem dX5_goOn_58 : decode cX5_goOn 58 = .ok (.ior, 1) := by decide +kernel
theorem dX5_goOn_59 : decode cX5_goOn 59 = .ok (.iload 6, 2) := by decide +kernel
theorem dX5_goOn_61 : decode cX5_goOn 61 = .ok (.iload 5, 2) := by decide +kernel
theorem dX5_goOn_63 : decode cX5_goOn 63 = .ok (.aload_n 0, 1) := by decide +kernel
theorem dX5_goOn_64 : decode cX5_goOn 64 = .ok (.iload 4, 2) := by decide +kernel
theorem dX5_goOn_66 : decode cX5_goOn 66 = .ok (.iload 6, 2) := by decide +kernel
theorem dX5_goOn_68 : decode cX5_goOn 68 = .ok (.invokevirtual 28, 3) := by decide +kernel
theorem dX5_goOn_71 : decode cX5_goOn 71 = .ok (.isub, 1) := by decide +kernel
theorem dX5_goOn_72 : decode cX5_goOn 72 = .ok (.invokevirtual 51, 3) := by decide +kernel
theorem dX5_goOn_75 : decode cX5_goOn 75 = .ok (.iinc 6 1, 3) := by decide +kernel
theorem dX5_goOn_78 : decode cX5_goOn 78 = .ok (.goto (-43), 3) := by decide +kernel
theorem dX5_goOn_81 : decode cX5_goOn 81 = .ok (.iinc 4 1, 3) := by decide +kernel
theorem dX5_goOn_84 : decode cX5_goOn 84 = .ok (.goto (-79), 3) := by decide +kernel
theorem dX5_goOn_87 : decode cX5_goOn 87 = .ok (.iload_n 3, 1) := by decide +kernel
theorem dX5_goOn_88 : decode cX5_goOn 88 = .ok (.ireturn, 1) := by decide +kernel
set_option maxRecDepth 20000 in
theorem ggX5_heatLeft_X6_within : GoodIn wsX5_heatLeft wsX6_within := goodIn_r _ [4] (by decide +kernel) (by decide +kernel)
set_option maxRecDepth 20000 in
theorem gX5_heatLeft_X6_within_n72 : GoodIn wsX5_heatLeft (wsX6_within) := ggX5_heatLeft_X6_within
set_option maxRecDepth 20000 in
theorem ggX5_heatLeft_X6_isHouse : GoodIn wsX5_heatLeft wsX6_isHouse := goodIn_r _ [6] (by decide +kernel) (by decide +kernel)
set_option maxRecDepth 20000 in
theorem gX5_heatLeft_X6_isHouse_n76 : GoodIn wsX5_heatLeft (wsX6_isHouse) := ggX5_heatLeft_X6_isHouse
theorem dX5_heatLeft_0 : decode cX5_heatLeft 0 = .ok (.aload_n 0, 1) := by decide +kernel
theorem dX5_heatLeft_1 : decode cX5_heatLeft 1 = .ok (.getfield 42, 3) := by decide +kernel
theorem dX5_heatLeft_4 : decode cX5_heatLeft 4 = .ok (.ifnull 25, 3) := by decide +kernel
theorem dX5_heatLeft_7 : decode cX5_heatLeft 7 = .ok (.iload_n 1, 1) := by decide +kernel
theorem dX5_heatLeft_8 : decode cX5_heatLeft 8 = .ok (.iconst 0, 1) := by decide +kernel
theorem dX5_heatLeft_9 : decode cX5_heatLeft 9 = .ok (.sipush 1023, 3) := by decide +kernel
theorem dX5_heatLeft_12 : decode cX5_heatLeft 12 = .ok (.invokestatic 72, 3) := by decide +kernel
theorem dX5_heatLeft_15 : decode cX5_heatLeft 15 = .ok (.ifCond .eq 14, 3) := by decide +kernel
theorem dX5_heatLeft_18 : decode cX5_heatLeft 18 = .ok (.iload_n 2, 1) := by decide +kernel
theorem dX5_heatLeft_19 : decode cX5_heatLeft 19 = .ok (.invokestatic 76, 3) := by decide +kernel
theorem dX5_heatLeft_22 : decode cX5_heatLeft 22 = .ok (.ifCond .eq 7, 3) := by decide +kernel
theorem dX5_heatLeft_25 : decode cX5_heatLeft 25 = .ok (.iconst 1, 1) := by decide +kernel
theorem dX5_heatLeft_26 : decode cX5_heatLeft 26 = .ok (.goto 4, 3) := by decide +kernel
theorem dX5_heatLeft_29 : decode cX5_heatLeft 29 = .ok (.iconst 0, 1) := by decide +kernel
theorem dX5_heatLeft_30 : decode cX5_heatLeft 30 = .ok (.istore_n 3, 1) := by decide +kernel
theorem dX5_heatLeft_31 : decode cX5_heatLeft 31 = .ok (.iload_n 3, 1) := by decide +kernel
theorem dX5_heatLeft_32 : decode cX5_heatLeft 32 = .ok (.ifCond .eq 17, 3) := by decide +kernel
theorem dX5_heatLeft_35 : decode cX5_heatLeft 35 = .ok (.aload_n 0, 1) := by decide +kernel
theorem dX5_heatLeft_36 : decode cX5_heatLeft 36 = .ok (.getfield 42, 3) := by decide +kernel
theorem dX5_heatLeft_39 : decode cX5_heatLeft 39 = .ok (.iload_n 1, 1) := by decide +kernel
theorem dX5_heatLeft_40 : decode cX5_heatLeft 40 = .ok (.bipush 10, 2) := by decide +kernel
theorem dX5_heatLeft_42 : decode cX5_heatLeft 42 = .ok (.imul, 1) := by decide +kernel
theorem dX5_heatLeft_43 : decode cX5_heatLeft 43 = .ok (.iload_n 2, 1) := by decide +kernel
theorem dX5_heatLeft_44 : decode cX5_heatLeft 44 = .ok (.iadd, 1) := by decide +kernel
theorem dX5_heatLeft_45 : decode cX5_heatLeft 45 = .ok (.iaload, 1) := by decide +kernel
theorem dX5_heatLeft_46 : decode cX5_heatLeft 46 = .ok (.goto 4, 3) := by decide +kernel
theorem dX5_heatLeft_49 : decode cX5_heatLeft 49 = .ok (.iconst (-1), 1) := by decide +kernel
theorem dX5_heatLeft_50 : decode cX5_heatLeft 50 = .ok (.ireturn, 1) := by decide +kernel
set_option maxRecDepth 20000 in
theorem ggX5_warm_X1_isDamp : GoodIn wsX5_warm wsX1_isDamp := goodIn_r _ [10, 11, 12, 13, 14, 30, 31, 32, 33, 34, 35, 36, 37, 38, 39, 40, 41] (by decide +kernel) (by decide +kernel)
set_option maxRecDepth 20000 in
theorem gX5_warm_X1_isDamp : GoodIn wsX5_warm (wsV RX5 79 RX1 yX1_isDamp wsX1_isDamp) := goodIn_app (goodIn_of _ (by decide +kernel)) ggX5_warm_X1_isDamp
set_option maxRecDepth 20000 in
theorem ggX5_warm_X1_isConvinced : GoodIn wsX5_warm wsX1_isConvinced := goodIn_r _ [18, 19, 12, 13, 14, 30, 31, 32, 33, 34, 35, 36, 37, 38, 39, 40, 41] (by decide +kernel) (by decide +kernel)
set_option maxRecDepth 20000 in
theorem gX5_warm_X1_isConvinced : GoodIn wsX5_warm (wsV RX5 82 RX1 yX1_isConvinced wsX1_isConvinced) := goodIn_app (goodIn_of _ (by decide +kernel)) ggX5_warm_X1_isConvinced
set_option maxRecDepth 20000 in
theorem ggX5_warm_X5_heatLeft : GoodIn wsX5_warm wsX5_heatLeft := goodIn_r _ [24, 5, 25, 13, 26, 12, 14, 27, 28, 29] (by decide +kernel) (by decide +kernel)
set_option maxRecDepth 20000 in
theorem gX5_warm_X5_heatLeft : GoodIn wsX5_warm (wsV RX5 65 RX5 yX5_heatLeft wsX5_heatLeft) := goodIn_app (goodIn_of _ (by decide +kernel)) ggX5_warm_X5_heatLeft
set_option maxRecDepth 20000 in
theorem ggX5_warm_X6_within : GoodIn wsX5_warm wsX6_within := goodIn_r _ [26] (by decide +kernel) (by decide +kernel)
set_option maxRecDepth 20000 in
theorem gX5_warm_X6_within_n72 : GoodIn wsX5_warm (wsX6_within) := ggX5_warm_X6_within
set_option maxRecDepth 20000 in
theorem ggX5_warm_X6_isHouse : GoodIn wsX5_warm wsX6_isHouse := goodIn_r _ [14] (by decide +kernel) (by decide +kernel)
set_option maxRecDepth 20000 in
theorem gX5_warm_X6_isHouse_n76 : GoodIn wsX5_warm (wsX6_isHouse) := ggX5_warm_X6_isHouse
theorem dX5_warm_0 : decode cX5_warm 0 = .ok (.aload_n 1, 1) := by decide +kernel
theorem dX5_warm_1 : decode cX5_warm 1 = .ok (.iload_n 3, 1) := by decide +kernel
theorem dX5_warm_2 : decode cX5_warm 2 = .ok (.invokevirtual 79, 3) := by decide +kernel
theorem dX5_warm_5 : decode cX5_warm 5 = .ok (.ifCond .ne 13, 3) := by decide +kernel
theorem dX5_warm_8 : decode cX5_warm 8 = .ok (.aload_n 1, 1) := by decide +kernel
theorem dX5_warm_9 : decode cX5_warm 9 = .ok (.iload_n 3, 1) := by decide +kernel
theorem dX5_warm_10 : decode cX5_warm 10 = .ok (.iload 4, 2) := by decide +kernel
theorem dX5_warm_12 : decode cX5_warm 12 = .ok (.invokevirtual 82, 3) := by decide +kernel
theorem dX5_warm_15 : decode cX5_warm 15 = .ok (.ifCond .ne 4, 3) := by decide +kernel
theorem dX5_warm_18 : decode cX5_warm 18 = .ok (.return_, 1) := by decide +kernel
theorem dX5_warm_19 : decode cX5_warm 19 = .ok (.iconst 0, 1) := by decide +kernel
theorem dX5_warm_20 : decode cX5_warm 20 = .ok (.iload 4, 2) := by decide +kernel
theorem dX5_warm_22 : decode cX5_warm 22 = .ok (.iconst 5, 1) := by decide +kernel
theorem dX5_warm_23 : decode cX5_warm 23 = .ok (.isub, 1) := by decide +kernel
theorem dX5_warm_24 : decode cX5_warm 24 = .ok (.invokestatic 85, 3) := by decide +kernel
theorem dX5_warm_27 : decode cX5_warm 27 = .ok (.istore 5, 2) := by decide +kernel
theorem dX5_warm_29 : decode cX5_warm 29 = .ok (.iload 5, 2) := by decide +kernel
theorem dX5_warm_31 : decode cX5_warm 31 = .ok (.aload_n 0, 1) := by decide +kernel
theorem dX5_warm_32 : decode cX5_warm 32 = .ok (.iload_n 2, 1) := by decide +kernel
theorem dX5_warm_33 : decode cX5_warm 33 = .ok (.iload_n 3, 1) := by decide +kernel
theorem dX5_warm_34 : decode cX5_warm 34 = .ok (.invokevirtual 65, 3) := by decide +kernel
theorem dX5_warm_37 : decode cX5_warm 37 = .ok (.if_icmp .le 41, 3) := by decide +kernel
theorem dX5_warm_40 : decode cX5_warm 40 = .ok (.aload_n 0, 1) := by decide +kernel
theorem dX5_warm_41 : decode cX5_warm 41 = .ok (.getfield 42, 3) := by decide +kernel
theorem dX5_warm_44 : decode cX5_warm 44 = .ok (.ifnull 34, 3) := by decide +kernel
theorem dX5_warm_47 : decode cX5_warm 47 = .ok (.iload_n 2, 1) := by decide +kernel
theorem dX5_warm_48 : decode cX5_warm 48 = .ok (.iconst 0, 1) := by decide +kernel
theorem dX5_warm_49 : decode cX5_warm 49 = .ok (.sipush 1023, 3) := by decide +kernel
theorem dX5_warm_52 : decode cX5_warm 52 = .ok (.invokestatic 72, 3) := by decide +kernel
theorem dX5_warm_55 : decode cX5_warm 55 = .ok (.ifCond .eq 23, 3) := by decide +kernel
theorem dX5_warm_58 : decode cX5_warm 58 = .ok (.iload_n 3, 1) := by decide +kernel
theorem dX5_warm_59 : decode cX5_warm 59 = .ok (.invokestatic 76, 3) := by decide +kernel
theorem dX5_warm_62 : decode cX5_warm 62 = .ok (.ifCond .eq 16, 3) := by decide +kernel
theorem dX5_warm_65 : decode cX5_warm 65 = .ok (.aload_n 0, 1) := by decide +kernel
theorem dX5_warm_66 : decode cX5_warm 66 = .ok (.getfield 42, 3) := by decide +kernel
theorem dX5_warm_69 : decode cX5_warm 69 = .ok (.iload_n 2, 1) := by decide +kernel
theorem dX5_warm_70 : decode cX5_warm 70 = .ok (.bipush 10, 2) := by decide +kernel
theorem dX5_warm_72 : decode cX5_warm 72 = .ok (.imul, 1) := by decide +kernel
theorem dX5_warm_73 : decode cX5_warm 73 = .ok (.iload_n 3, 1) := by decide +kernel
theorem dX5_warm_74 : decode cX5_warm 74 = .ok (.iadd, 1) := by decide +kernel
theorem dX5_warm_75 : decode cX5_warm 75 = .ok (.iload 5, 2) := by decide +kernel
theorem dX5_warm_77 : decode cX5_warm 77 = .ok (.iastore, 1) := by decide +kernel
theorem dX5_warm_78 : decode cX5_warm 78 = .ok (.return_, 1) := by decide +kernel
set_option maxRecDepth 20000 in
theorem ggX5_fewestDamp_X1_longBetween : GoodIn wsX5_fewestDamp wsX1_longBetween := goodIn_r _ [5, 6, 7, 8, 9, 29, 30, 31, 32, 33, 34, 35, 36, 37, 38, 39, 40] (by decide +kernel) (by decide +kernel)
set_option maxRecDepth 20000 in
theorem gX5_fewestDamp_X1_longBetween : GoodIn wsX5_fewestDamp (wsV RX5 18 RX1 yX1_longBetween wsX1_longBetween) := goodIn_app (goodIn_of _ (by decide +kernel)) ggX5_fewestDamp_X1_longBetween
set_option maxRecDepth 20000 in
theorem ggX5_fewestDamp_X5_findNeighbours : GoodIn wsX5_fewestDamp wsX5_findNeighbours := goodIn_r _ [14, 15, 1, 2, 3, 4, 5, 6, 7, 8, 9, 41, 42, 43, 29, 30, 31, 32, 33, 34, 35, 36, 37, 38, 39, 40] (by decide +kernel) (by decide +kernel)
set_option maxRecDepth 20000 in
theorem gX5_fewestDamp_X5_findNeighbours : GoodIn wsX5_fewestDamp (wsV RX5 90 RX5 yX5_findNeighbours wsX5_findNeighbours) := goodIn_app (goodIn_of _ (by decide +kernel)) ggX5_fewestDamp_X5_findNeighbours
set_option maxRecDepth 20000 in
theorem ggX5_fewestDamp_J6_bitCount_0f7a4 : GoodIn wsX5_fewestDamp wsJ6_bitCount_0f7a4 := goodIn_r _ [19, 20, 21, 22] (by decide +kernel) (by decide +kernel)
set_option maxRecDepth 20000 in
theorem gX5_fewestDamp_J6_bitCount_0f7a4 : GoodIn wsX5_fewestDamp (va_wsS RX5 59 yJ6_bitCount_0f7a4 wsJ6_bitCount_0f7a4) := goodIn_app (goodIn_of _ (by decide +kernel)) ggX5_fewestDamp_J6_bitCount_0f7a4
set_option maxRecDepth 20000 in
theorem ggX5_fewestDamp_X6_isIn : GoodIn wsX5_fewestDamp wsX6_isIn := goodIn_r _ [24] (by decide +kernel) (by decide +kernel)
set_option maxRecDepth 20000 in
theorem gX5_fewestDamp_X6_isIn_n68 : GoodIn wsX5_fewestDamp (wsX6_isIn) := ggX5_fewestDamp_X6_isIn
set_option maxRecDepth 20000 in
theorem ggX5_fewestDamp_X5_leadsTo : GoodIn wsX5_fewestDamp wsX5_leadsTo := goodIn_r _ [28, 15, 23, 8, 24, 41, 42, 43] (by decide +kernel) (by decide +kernel)
set_option maxRecDepth 20000 in
theorem gX5_fewestDamp_X5_leadsTo : GoodIn wsX5_fewestDamp (wsV RX5 93 RX5 yX5_leadsTo wsX5_leadsTo) := goodIn_app (goodIn_of _ (by decide +kernel)) ggX5_fewestDamp_X5_leadsTo
theorem dX5_fewestDamp_0 : decode cX5_fewestDamp 0 = .ok (.aload_n 1, 1) := by decide +kernel
theorem dX5_fewestDamp_1 : decode cX5_fewestDamp 1 = .ok (.bipush 10, 2) := by decide +kernel
theorem dX5_fewestDamp_3 : decode cX5_fewestDamp 3 = .ok (.iload_n 2, 1) := by decide +kernel
theorem dX5_fewestDamp_4 : decode cX5_fewestDamp 4 = .ok (.invokevirtual 18, 3) := by decide +kernel
theorem dX5_fewestDamp_7 : decode cX5_fewestDamp 7 = .ok (.ifCond .le 6, 3) := by decide +kernel
theorem dX5_fewestDamp_10 : decode cX5_fewestDamp 10 = .ok (.bipush (-6), 2) := by decide +kernel
theorem dX5_fewestDamp_12 : decode cX5_fewestDamp 12 = .ok (.ireturn, 1) := by decide +kernel
theorem dX5_fewestDamp_13 : decode cX5_fewestDamp 13 = .ok (.aload_n 0, 1) := by decide +kernel
theorem dX5_fewestDamp_14 : decode cX5_fewestDamp 14 = .ok (.aload_n 1, 1) := by decide +kernel
theorem dX5_fewestDamp_15 : decode cX5_fewestDamp 15 = .ok (.invokevirtual 90, 3) := by decide +kernel
theorem dX5_fewestDamp_18 : decode cX5_fewestDamp 18 = .ok (.bipush (-6), 2) := by decide +kernel
theorem dX5_fewestDamp_20 : decode cX5_fewestDamp 20 = .ok (.istore_n 3, 1) := by decide +kernel
theorem dX5_fewestDamp_21 : decode cX5_fewestDamp 21 = .ok (.iconst 0, 1) := by decide +kernel
theorem dX5_fewestDamp_22 : decode cX5_fewestDamp 22 = .ok (.istore 4, 2) := by decide +kernel
theorem dX5_fewestDamp_24 : decode cX5_fewestDamp 24 = .ok (.iload 4, 2) := by decide +kernel
theorem dX5_fewestDamp_26 : decode cX5_fewestDamp 26 = .ok (.sipush 1024, 3) := by decide +kernel
theorem dX5_fewestDamp_29 : decode cX5_fewestDamp 29 = .ok (.if_icmp .ge 61, 3) := by decide +kernel
theorem dX5_fewestDamp_32 : decode cX5_fewestDamp 32 = .ok (.iload_n 3, 1) := by decide +kernel
theorem dX5_fewestDamp_33 : decode cX5_fewestDamp 33 = .ok (.bipush (-6), 2) := by decide +kernel
theorem dX5_fewestDamp_35 : decode cX5_fewestDamp 35 = .ok (.if_icmp .eq 15, 3) := by decide +kernel
theorem dX5_fewestDamp_38 : decode cX5_fewestDamp 38 = .ok (.iload 4, 2) := by decide +kernel
theorem dX5_fewestDamp_40 : decode cX5_fewestDamp 40 = .ok (.invokestatic 59, 3) := by decide +kernel
theorem dX5_fewestDamp_43 : decode cX5_fewestDamp 43 = .ok (.iload_n 3, 1) := by decide +kernel
theorem dX5_fewestDamp_44 : decode cX5_fewestDamp 44 = .ok (.invokestatic 59, 3) := by decide +kernel
theorem dX5_fewestDamp_47 : decode cX5_fewestDamp 47 = .ok (.if_icmp .ge 7, 3) := by decide +kernel
theorem dX5_fewestDamp_50 : decode cX5_fewestDamp 50 = .ok (.iconst 1, 1) := by decide +kernel
theorem dX5_fewestDamp_51 : decode cX5_fewestDamp 51 = .ok (.goto 4, 3) := by decide +kernel
theorem dX5_fewestDamp_54 : decode cX5_fewestDamp 54 = .ok (.iconst 0, 1) := by decide +kernel
theorem dX5_fewestDamp_55 : decode cX5_fewestDamp 55 = .ok (.istore 5, 2) := by decide +kernel
theorem dX5_fewestDamp_57 : decode cX5_fewestDamp 57 = .ok (.iload 5, 2) := by decide +kernel
theorem dX5_fewestDamp_59 : decode cX5_fewestDamp 59 = .ok (.ifCond .eq 25, 3) := by decide +kernel
theorem dX5_fewestDamp_62 : decode cX5_fewestDamp 62 = .ok (.iload_n 2, 1) := by decide +kernel
theorem dX5_fewestDamp_63 : decode cX5_fewestDamp 63 = .ok (.iload 4, 2) := by decide +kernel
theorem dX5_fewestDamp_65 : decode cX5_fewestDamp 65 = .ok (.invokestatic 68, 3) := by decide +kernel
theorem dX5_fewestDamp_68 : decode cX5_fewestDamp 68 = .ok (.ifCond .ne 16, 3) := by decide +kernel
theorem dX5_fewestDamp_71 : decode cX5_fewestDamp 71 = .ok (.aload_n 0, 1) := by decide +kernel
theorem dX5_fewestDamp_72 : decode cX5_fewestDamp 72 = .ok (.iload_n 2, 1) := by decide +kernel
theorem dX5_fewestDamp_73 : decode cX5_fewestDamp 73 = .ok (.iload 4, 2) := by decide +kernel
theorem dX5_fewestDamp_75 : decode cX5_fewestDamp 75 = .ok (.invokevirtual 93, 3) := by decide +kernel
theorem dX5_fewestDamp_78 : decode cX5_fewestDamp 78 = .ok (.ifCond .ne 6, 3) := by decide +kernel
theorem dX5_fewestDamp_81 : decode cX5_fewestDamp 81 = .ok (.iload 4, 2) := by decide +kernel
theorem dX5_fewestDamp_83 : decode cX5_fewestDamp 83 = .ok (.istore_n 3, 1) := by decide +kernel
theorem dX5_fewestDamp_84 : decode cX5_fewestDamp 84 = .ok (.iinc 4 1, 3) := by decide +kernel
theorem dX5_fewestDamp_87 : decode cX5_fewestDamp 87 = .ok (.goto (-63), 3) := by decide +kernel
theorem dX5_fewestDamp_90 : decode cX5_fewestDamp 90 = .ok (.iload_n 3, 1) := by decide +kernel
theorem dX5_fewestDamp_91 : decode cX5_fewestDamp 91 = .ok (.ireturn, 1) := by decide +kernel
set_option maxRecDepth 20000 in
theorem ggX5_findNeighbours_X1_longBetween : GoodIn wsX5_findNeighbours wsX1_longBetween := goodIn_r _ [6, 7, 8, 9, 10, 14, 15, 16, 17, 18, 19, 20, 21, 22, 23, 24, 25] (by decide +kernel) (by decide +kernel)
set_option maxRecDepth 20000 in
theorem gX5_findNeighbours_X1_longBetween : GoodIn wsX5_findNeighbours (wsV RX5 18 RX1 yX1_longBetween wsX1_longBetween) := goodIn_app (goodIn_of _ (by decide +kernel)) ggX5_findNeighbours_X1_longBetween
theorem dX5_findNeighbours_0 : decode cX5_findNeighbours 0 = .ok (.iconst 0, 1) := by decide +kernel
theorem dX5_findNeighbours_1 : decode cX5_findNeighbours 1 = .ok (.istore_n 2, 1) := by decide +kernel
theorem dX5_findNeighbours_2 : decode cX5_findNeighbours 2 = .ok (.iload_n 2, 1) := by decide +kernel
theorem dX5_findNeighbours_3 : decode cX5_findNeighbours 3 = .ok (.bipush 11, 2) := by decide +kernel
theorem dX5_findNeighbours_5 : decode cX5_findNeighbours 5 = .ok (.if_icmp .ge 51, 3) := by decide +kernel
theorem dX5_findNeighbours_8 : decode cX5_findNeighbours 8 = .ok (.iconst 0, 1) := by decide +kernel
theorem dX5_findNeighbours_9 : decode cX5_findNeighbours 9 = .ok (.istore_n 3, 1) := by decide +kernel
theorem dX5_findNeighbours_10 : decode cX5_findNeighbours 10 = .ok (.iconst 0, 1) := by decide +kernel
theorem dX5_findNeighbours_11 : decode cX5_findNeighbours 11 = .ok (.istore 4, 2) := by decide +kernel
theorem dX5_findNeighbours_13 : decode cX5_findNeighbours 13 = .ok (.iload 4, 2) := by decide +kernel
theorem dX5_findNeighbours_15 : decode cX5_findNeighbours 15 = .ok (.bipush 11, 2) := by decide +kernel
theorem dX5_findNeighbours_17 : decode cX5_findNeighbours 17 = .ok (.if_icmp .ge 26, 3) := by decide +kernel
theorem dX5_findNeighbours_20 : decode cX5_findNeighbours 20 = .ok (.aload_n 1, 1) := by decide +kernel
theorem dX5_findNeighbours_21 : decode cX5_findNeighbours 21 = .ok (.iload_n 2, 1) := by decide +kernel
theorem dX5_findNeighbours_22 : decode cX5_findNeighbours 22 = .ok (.iload 4, 2) := by decide +kernel
theorem dX5_findNeighbours_24 : decode cX5_findNeighbours 24 = .ok (.invokevirtual 18, 3) := by decide +kernel
theorem dX5_findNeighbours_27 : decode cX5_findNeighbours 27 = .ok (.ifCond .le 10, 3) := by decide +kernel
theorem dX5_findNeighbours_30 : decode cX5_findNeighbours 30 = .ok (.iload_n 3, 1) := by decide +kernel
theorem dX5_findNeighbours_31 : decode cX5_findNeighbours 31 = .ok (.iconst 1, 1) := by decide +kernel
theorem dX5_findNeighbours_32 : decode cX5_findNeighbours 32 = .ok (.iload 4, 2) := by decide +kernel
theorem dX5_findNeighbours_34 : decode cX5_findNeighbours 34 = .ok (.ishl, 1) := by decide +kernel
theorem dX5_findNeighbours_35 : decode cX5_findNeighbours 35 = .ok (.ior, 1) := by decide +kernel
theorem dX5_findNeighbours_36 : decode cX5_findNeighbours 36 = .ok (.istore_n 3, 1) := by decide +kernel
theorem dX5_findNeighbours_37 : decode cX5_findNeighbours 37 = .ok (.iinc 4 1, 3) := by decide +kernel
theorem dX5_findNeighbours_40 : decode cX5_findNeighbours 40 = .ok (.goto (-27), 3) := by decide +kernel
theorem dX5_findNeighbours_43 : decode cX5_findNeighbours 43 = .ok (.aload_n 0, 1) := by decide +kernel
theorem dX5_findNeighbours_44 : decode cX5_findNeighbours 44 = .ok (.getfield 15, 3) := by decide +kernel
theorem dX5_findNeighbours_47 : decode cX5_findNeighbours 47 = .ok (.iload_n 2, 1) := by decide +kernel
theorem dX5_findNeighbours_48 : decode cX5_findNeighbours 48 = .ok (.iload_n 3, 1) := by decide +kernel
theorem dX5_findNeighbours_49 : decode cX5_findNeighbours 49 = .ok (.iastore, 1) := by decide +kernel
theorem dX5_findNeighbours_50 : decode cX5_findNeighbours 50 = .ok (.iinc 2 1, 3) := by decide +kernel
theorem dX5_findNeighbours_53 : decode cX5_findNeighbours 53 = .ok (.goto (-51), 3) := by decide +kernel
theorem dX5_findNeighbours_56 : decode cX5_findNeighbours 56 = .ok (.return_, 1) := by decide +kernel
set_option maxRecDepth 20000 in
theorem ggX5_leadsTo_X6_isIn : GoodIn wsX5_leadsTo wsX6_isIn := goodIn_r _ [4] (by decide +kernel) (by decide +kernel)
set_option maxRecDepth 20000 in
theorem gX5_leadsTo_X6_isIn_n68 : GoodIn wsX5_leadsTo (wsX6_isIn) := ggX5_leadsTo_X6_isIn
theorem dX5_leadsTo_0 : decode cX5_leadsTo 0 = .ok (.sipush 1024, 3) := by decide +kernel
theorem dX5_leadsTo_3 : decode cX5_leadsTo 3 = .ok (.istore_n 3, 1) := by decide +kernel
theorem dX5_leadsTo_4 : decode cX5_leadsTo 4 = .ok (.iconst 0, 1) := by decide +kernel
theorem dX5_leadsTo_5 : decode cX5_leadsTo 5 = .ok (.istore 4, 2) := by decide +kernel
theorem dX5_leadsTo_7 : decode cX5_leadsTo 7 = .ok (.iload 4, 2) := by decide +kernel
theorem dX5_leadsTo_9 : decode cX5_leadsTo 9 = .ok (.bipush 11, 2) := by decide +kernel
theorem dX5_leadsTo_11 : decode cX5_leadsTo 11 = .ok (.if_icmp .ge 64, 3) := by decide +kernel
theorem dX5_leadsTo_14 : decode cX5_leadsTo 14 = .ok (.iload_n 1, 1) := by decide +kernel
theorem dX5_leadsTo_15 : decode cX5_leadsTo 15 = .ok (.iload_n 3, 1) := by decide +kernel
theorem dX5_leadsTo_16 : decode cX5_leadsTo 16 = .ok (.invokestatic 68, 3) := by decide +kernel
theorem dX5_leadsTo_19 : decode cX5_leadsTo 19 = .ok (.ifCond .ne 56, 3) := by decide +kernel
theorem dX5_leadsTo_22 : decode cX5_leadsTo 22 = .ok (.iload_n 3, 1) := by decide +kernel
theorem dX5_leadsTo_23 : decode cX5_leadsTo 23 = .ok (.istore 5, 2) := by decide +kernel
theorem dX5_leadsTo_25 : decode cX5_leadsTo 25 = .ok (.iconst 0, 1) := by decide +kernel
theorem dX5_leadsTo_26 : decode cX5_leadsTo 26 = .ok (.istore 6, 2) := by decide +kernel
theorem dX5_leadsTo_28 : decode cX5_leadsTo 28 = .ok (.iload 6, 2) := by decide +kernel
theorem dX5_leadsTo_30 : decode cX5_leadsTo 30 = .ok (.bipush 11, 2) := by decide +kernel
theorem dX5_leadsTo_32 : decode cX5_leadsTo 32 = .ok (.if_icmp .ge 34, 3) := by decide +kernel
theorem dX5_leadsTo_35 : decode cX5_leadsTo 35 = .ok (.iload 6, 2) := by decide +kernel
theorem dX5_leadsTo_37 : decode cX5_leadsTo 37 = .ok (.iload_n 3, 1) := by decide +kernel
theorem dX5_leadsTo_38 : decode cX5_leadsTo 38 = .ok (.invokestatic 68, 3) := by decide +kernel
theorem dX5_leadsTo_41 : decode cX5_leadsTo 41 = .ok (.ifCond .eq 19, 3) := by decide +kernel
theorem dX5_leadsTo_44 : decode cX5_leadsTo 44 = .ok (.iload 5, 2) := by decide +kernel
theorem dX5_leadsTo_46 : decode cX5_leadsTo 46 = .ok (.aload_n 0, 1) := by decide +kernel
theorem dX5_leadsTo_47 : decode cX5_leadsTo 47 = .ok (.getfield 15, 3) := by decide +kernel
theorem dX5_leadsTo_50 : decode cX5_leadsTo 50 = .ok (.iload 6, 2) := by decide +kernel
theorem dX5_leadsTo_52 : decode cX5_leadsTo 52 = .ok (.iaload, 1) := by decide +kernel
theorem dX5_leadsTo_53 : decode cX5_leadsTo 53 = .ok (.iload_n 2, 1) := by decide +kernel
theorem dX5_leadsTo_54 : decode cX5_leadsTo 54 = .ok (.iconst (-1), 1) := by decide +kernel
theorem dX5_leadsTo_55 : decode cX5_leadsTo 55 = .ok (.ixor, 1) := by decide +kernel
theorem dX5_leadsTo_56 : decode cX5_leadsTo 56 = .ok (.iand, 1) := by decide +kernel
theorem dX5_leadsTo_57 : decode cX5_leadsTo 57 = .ok (.ior, 1) := by decide +kernel
theorem dX5_leadsTo_58 : decode cX5_leadsTo 58 = .ok (.istore 5, 2) := by decide +kernel
theorem dX5_leadsTo_60 : decode cX5_leadsTo 60 = .ok (.iinc 6 1, 3) := by decide +kernel
theorem dX5_leadsTo_63 : decode cX5_leadsTo 63 = .ok (.goto (-35), 3) := by decide +kernel
theorem dX5_leadsTo_66 : decode cX5_leadsTo 66 = .ok (.iload 5, 2) := by decide +kernel
theorem dX5_leadsTo_68 : decode cX5_leadsTo 68 = .ok (.istore_n 3, 1) := by decide +kernel
theorem dX5_leadsTo_69 : decode cX5_leadsTo 69 = .ok (.iinc 4 1, 3) := by decide +kernel
theorem dX5_leadsTo_72 : decode cX5_leadsTo 72 = .ok (.goto (-65), 3) := by decide +kernel
theorem dX5_leadsTo_75 : decode cX5_leadsTo 75 = .ok (.iload_n 1, 1) := by decide +kernel
theorem dX5_leadsTo_76 : decode cX5_leadsTo 76 = .ok (.iload_n 3, 1) := by decide +kernel
theorem dX5_leadsTo_77 : decode cX5_leadsTo 77 = .ok (.invokestatic 68, 3) := by decide +kernel
theorem dX5_leadsTo_80 : decode cX5_leadsTo 80 = .ok (.ireturn, 1) := by decide +kernel
set_option maxRecDepth 20000 in
theorem ggX6_init_X1_init : GoodIn wsX6_init wsX1_init := goodIn_r _ [32, 33, 2, 3, 34, 35, 36, 37, 38, 39, 40, 41, 42, 43, 44, 45, 46, 72, 73, 74, 75, 76, 77, 78, 79, 80, 81, 82, 83] (by decide +kernel) (by decide +kernel)
set_option maxRecDepth 20000 in
theorem gX6_init_X1_init : GoodIn wsX6_init (wsX1_init) := ggX6_init_X1_init
set_option maxRecDepth 20000 in
theorem ggX6_init_X3_init : GoodIn wsX6_init wsX3_init := goodIn_r _ [48, 49, 2, 3, 34, 50, 92, 93] (by decide +kernel) (by decide +kernel)
set_option maxRecDepth 20000 in
theorem gX6_init_X3_init_n25 : GoodIn wsX6_init (wsX3_init) := ggX6_init_X3_init
set_option maxRecDepth 20000 in
theorem ggX6_init_X2_init : GoodIn wsX6_init wsX2_init := goodIn_r _ [52, 53, 2, 3] (by decide +kernel) (by decide +kernel)
set_option maxRecDepth 20000 in
theorem gX6_init_X2_init_n32 : GoodIn wsX6_init (wsX2_init) := ggX6_init_X2_init
set_option maxRecDepth 20000 in
theorem ggX6_init_X5_init : GoodIn wsX6_init wsX5_init := goodIn_r _ [55, 56, 2, 3, 34, 57, 58, 100, 101, 102] (by decide +kernel) (by decide +kernel)
set_option maxRecDepth 20000 in
theorem gX6_init_X5_init_n39 : GoodIn wsX6_init (wsX5_init) := ggX6_init_X5_init
set_option maxRecDepth 20000 in
theorem ggX6_init_X4_init : GoodIn wsX6_init wsX4_init := goodIn_r _ [60, 61, 2, 3, 34, 62, 63, 64, 103, 104, 105, 106] (by decide +kernel) (by decide +kernel)
set_option maxRecDepth 20000 in
theorem gX6_init_X4_init_n46 : GoodIn wsX6_init (wsX4_init) := ggX6_init_X4_init
set_option maxRecDepth 20000 in
theorem ggX6_init_X0_init : GoodIn wsX6_init wsX0_init := goodIn_r _ [66, 67, 2, 3, 68, 69, 70, 34, 71, 107, 108, 109] (by decide +kernel) (by decide +kernel)
set_option maxRecDepth 20000 in
theorem gX6_init_X0_init_n53 : GoodIn wsX6_init (wsX0_init) := ggX6_init_X0_init
theorem dX6_init_0 : decode cX6_init 0 = .ok (.aload_n 0, 1) := by decide +kernel
theorem dX6_init_1 : decode cX6_init 1 = .ok (.invokespecial 3, 3) := by decide +kernel
theorem dX6_init_4 : decode cX6_init 4 = .ok (.aload_n 0, 1) := by decide +kernel
theorem dX6_init_5 : decode cX6_init 5 = .ok (.new 9, 3) := by decide +kernel
theorem dX6_init_8 : decode cX6_init 8 = .ok (.dup, 1) := by decide +kernel
theorem dX6_init_9 : decode cX6_init 9 = .ok (.invokespecial 11, 3) := by decide +kernel
theorem dX6_init_12 : decode cX6_init 12 = .ok (.putfield 12, 3) := by decide +kernel
theorem dX6_init_15 : decode cX6_init 15 = .ok (.aload_n 0, 1) := by decide +kernel
theorem dX6_init_16 : decode cX6_init 16 = .ok (.new 9, 3) := by decide +kernel
theorem dX6_init_19 : decode cX6_init 19 = .ok (.dup, 1) := by decide +kernel
theorem dX6_init_20 : decode cX6_init 20 = .ok (.invokespecial 11, 3) := by decide +kernel
theorem dX6_init_23 : decode cX6_init 23 = .ok (.putfield 16, 3) := by decide +kernel
theorem dX6_init_26 : decode cX6_init 26 = .ok (.aload_n 0, 1) := by decide +kernel
theorem dX6_init_27 : decode cX6_init 27 = .ok (.iconst 2, 1) := by decide +kernel
theorem dX6_init_28 : decode cX6_init 28 = .ok (.anewarray 9, 3) := by decide +kernel
theorem dX6_init_31 : decode cX6_init 31 = .ok (.putfield 19, 3) := by decide +kernel
theorem dX6_init_34 : decode cX6_init 34 = .ok (.aload_n 0, 1) := by decide +kernel
theorem dX6_init_35 : decode cX6_init 35 = .ok (.new 23, 3) := by decide +kernel
theorem dX6_init_38 : decode cX6_init 38 = .ok (.dup, 1) := by decide +kernel
theorem dX6_init_39 : decode cX6_init 39 = .ok (.invokespecial 25, 3) := by decide +kernel
theorem dX6_init_42 : decode cX6_init 42 = .ok (.putfield 26, 3) := by decide +kernel
theorem dX6_init_45 : decode cX6_init 45 = .ok (.aload_n 0, 1) := by decide +kernel
theorem dX6_init_46 : decode cX6_init 46 = .ok (.new 30, 3) := by decide +kernel
theorem dX6_init_49 : decode cX6_init 49 = .ok (.dup, 1) := by decide +kernel
theorem dX6_init_50 : decode cX6_init 50 = .ok (.invokespecial 32, 3) := by decide +kernel
theorem dX6_init_53 : decode cX6_init 53 = .ok (.putfield 33, 3) := by decide +kernel
theorem dX6_init_56 : decode cX6_init 56 = .ok (.aload_n 0, 1) := by decide +kernel
theorem dX6_init_57 : decode cX6_init 57 = .ok (.new 37, 3) := by decide +kernel
theorem dX6_init_60 : decode cX6_init 60 = .ok (.dup, 1) := by decide +kernel
theorem dX6_init_61 : decode cX6_init 61 = .ok (.invokespecial 39, 3) := by decide +kernel
theorem dX6_init_64 : decode cX6_init 64 = .ok (.putfield 40, 3) := by decide +kernel
theorem dX6_init_67 : decode cX6_init 67 = .ok (.aload_n 0, 1) := by decide +kernel
theorem dX6_init_68 : decode cX6_init 68 = .ok (.new 44, 3) := by decide +kernel
theorem dX6_init_71 : decode cX6_init 71 = .ok (.dup, 1) := by decide +kernel
theorem dX6_init_72 : decode cX6_init 72 = .ok (.invokespecial 46, 3) := by decide +kernel
theorem dX6_init_75 : decode cX6_init 75 = .ok (.putfield 47, 3) := by decide +kernel
theorem dX6_init_78 : decode cX6_init 78 = .ok (.aload_n 0, 1) := by decide +kernel
theorem dX6_init_79 : decode cX6_init 79 = .ok (.new 51, 3) := by decide +kernel
theorem dX6_init_82 : decode cX6_init 82 = .ok (.dup, 1) := by decide +kernel
theorem dX6_init_83 : decode cX6_init 83 = .ok (.invokespecial 53, 3) := by decide +kernel
theorem dX6_init_86 : decode cX6_init 86 = .ok (.putfield 54, 3) := by decide +kernel
theorem dX6_init_89 : decode cX6_init 89 = .ok (.return_, 1) := by decide +kernel
set_option maxRecDepth 20000 in
theorem ggX6_road_X6_isPlace : GoodIn wsX6_road wsX6_isPlace := goodIn_r _ [5] (by decide +kernel) (by decide +kernel)
set_option maxRecDepth 20000 in
theorem gX6_road_X6_isPlace : GoodIn wsX6_road (va_wsS RX6 58 yX6_isPlace wsX6_isPlace) := goodIn_app (goodIn_of _ (by decide +kernel)) ggX6_road_X6_isPlace
set_option maxRecDepth 20000 in
theorem ggX6_road_X6_within : GoodIn wsX6_road wsX6_within := goodIn_r _ [8] (by decide +kernel) (by decide +kernel)
set_option maxRecDepth 20000 in
theorem gX6_road_X6_within : GoodIn wsX6_road (va_wsS RX6 62 yX6_within wsX6_within) := goodIn_app (goodIn_of _ (by decide +kernel)) ggX6_road_X6_within
set_option maxRecDepth 20000 in
theorem ggX6_road_X1_longBetween : GoodIn wsX6_road wsX1_longBetween := goodIn_r _ [13, 14, 3, 4, 5, 27, 28, 29, 30, 31, 32, 33, 34, 35, 36, 37, 38] (by decide +kernel) (by decide +kernel)
set_option maxRecDepth 20000 in
theorem gX6_road_X1_longBetween : GoodIn wsX6_road (wsV RX6 66 RX1 yX1_longBetween wsX1_longBetween) := goodIn_app (goodIn_of _ (by decide +kernel)) ggX6_road_X1_longBetween
set_option maxRecDepth 20000 in
theorem ggX6_road_X1_layRoad : GoodIn wsX6_road wsX1_layRoad := goodIn_r _ [18, 14, 3, 4, 5, 27, 28, 29, 30, 31, 32, 33, 34, 35, 36, 37, 38] (by decide +kernel) (by decide +kernel)
set_option maxRecDepth 20000 in
theorem gX6_road_X1_layRoad : GoodIn wsX6_road (wsV RX6 70 RX1 yX1_layRoad wsX1_layRoad) := goodIn_app (goodIn_of _ (by decide +kernel)) ggX6_road_X1_layRoad
theorem dX6_road_0 : decode cX6_road 0 = .ok (.iload_n 1, 1) := by decide +kernel
theorem dX6_road_1 : decode cX6_road 1 = .ok (.invokestatic 58, 3) := by decide +kernel
theorem dX6_road_4 : decode cX6_road 4 = .ok (.ifCond .eq 15, 3) := by decide +kernel
theorem dX6_road_7 : decode cX6_road 7 = .ok (.iload_n 2, 1) := by decide +kernel
theorem dX6_road_8 : decode cX6_road 8 = .ok (.invokestatic 58, 3) := by decide +kernel
theorem dX6_road_11 : decode cX6_road 11 = .ok (.ifCond .eq 8, 3) := by decide +kernel
theorem dX6_road_14 : decode cX6_road 14 = .ok (.iload_n 1, 1) := by decide +kernel
theorem dX6_road_15 : decode cX6_road 15 = .ok (.iload_n 2, 1) := by decide +kernel
theorem dX6_road_16 : decode cX6_road 16 = .ok (.if_icmp .ne 5, 3) := by decide +kernel
theorem dX6_road_19 : decode cX6_road 19 = .ok (.iconst (-1), 1) := by decide +kernel
theorem dX6_road_20 : decode cX6_road 20 = .ok (.ireturn, 1) := by decide +kernel
theorem dX6_road_21 : decode cX6_road 21 = .ok (.iload_n 3, 1) := by decide +kernel
theorem dX6_road_22 : decode cX6_road 22 = .ok (.iconst 0, 1) := by decide +kernel
theorem dX6_road_23 : decode cX6_road 23 = .ok (.bipush 9, 2) := by decide +kernel
theorem dX6_road_25 : decode cX6_road 25 = .ok (.invokestatic 62, 3) := by decide +kernel
theorem dX6_road_28 : decode cX6_road 28 = .ok (.ifCond .ne 6, 3) := by decide +kernel
theorem dX6_road_31 : decode cX6_road 31 = .ok (.bipush (-2), 2) := by decide +kernel
theorem dX6_road_33 : decode cX6_road 33 = .ok (.ireturn, 1) := by decide +kernel
theorem dX6_road_34 : decode cX6_road 34 = .ok (.aload_n 0, 1) := by decide +kernel
theorem dX6_road_35 : decode cX6_road 35 = .ok (.getfield 12, 3) := by decide +kernel
theorem dX6_road_38 : decode cX6_road 38 = .ok (.iload_n 1, 1) := by decide +kernel
theorem dX6_road_39 : decode cX6_road 39 = .ok (.iload_n 2, 1) := by decide +kernel
theorem dX6_road_40 : decode cX6_road 40 = .ok (.invokevirtual 66, 3) := by decide +kernel
theorem dX6_road_43 : decode cX6_road 43 = .ok (.istore 4, 2) := by decide +kernel
theorem dX6_road_45 : decode cX6_road 45 = .ok (.aload_n 0, 1) := by decide +kernel
theorem dX6_road_46 : decode cX6_road 46 = .ok (.getfield 12, 3) := by decide +kernel
theorem dX6_road_49 : decode cX6_road 49 = .ok (.iload_n 1, 1) := by decide +kernel
theorem dX6_road_50 : decode cX6_road 50 = .ok (.iload_n 2, 1) := by decide +kernel
theorem dX6_road_51 : decode cX6_road 51 = .ok (.iload_n 3, 1) := by decide +kernel
theorem dX6_road_52 : decode cX6_road 52 = .ok (.invokevirtual 70, 3) := by decide +kernel
theorem dX6_road_55 : decode cX6_road 55 = .ok (.iload 4, 2) := by decide +kernel
theorem dX6_road_57 : decode cX6_road 57 = .ok (.ireturn, 1) := by decide +kernel
set_option maxRecDepth 20000 in
theorem ggX6_house_X6_isHouse : GoodIn wsX6_house wsX6_isHouse := goodIn_r _ [5] (by decide +kernel) (by decide +kernel)
set_option maxRecDepth 20000 in
theorem gX6_house_X6_isHouse : GoodIn wsX6_house (va_wsS RX6 74 yX6_isHouse wsX6_isHouse) := goodIn_app (goodIn_of _ (by decide +kernel)) ggX6_house_X6_isHouse
set_option maxRecDepth 20000 in
theorem ggX6_house_X6_within : GoodIn wsX6_house wsX6_within := goodIn_r _ [8] (by decide +kernel) (by decide +kernel)
set_option maxRecDepth 20000 in
theorem gX6_house_X6_within : GoodIn wsX6_house (va_wsS RX6 62 yX6_within wsX6_within) := goodIn_app (goodIn_of _ (by decide +kernel)) ggX6_house_X6_within
set_option maxRecDepth 20000 in
theorem ggX6_house_X1_doubtOf : GoodIn wsX6_house wsX1_doubtOf := goodIn_r _ [13, 14, 3, 4, 5, 28, 29, 30, 31, 32, 33, 34, 35, 36, 37, 38, 39] (by decide +kernel) (by decide +kernel)
set_option maxRecDepth 20000 in
theorem gX6_house_X1_doubtOf : GoodIn wsX6_house (wsV RX6 77 RX1 yX1_doubtOf wsX1_doubtOf) := goodIn_app (goodIn_of _ (by decide +kernel)) ggX6_house_X1_doubtOf
set_option maxRecDepth 20000 in
theorem ggX6_house_X1_furnish : GoodIn wsX6_house wsX1_furnish := goodIn_r _ [18, 14, 19, 3, 4, 5, 28, 29, 30, 31, 32, 33, 34, 35, 36, 37, 38, 39] (by decide +kernel) (by decide +kernel)
set_option maxRecDepth 20000 in
theorem gX6_house_X1_furnish : GoodIn wsX6_house (wsV RX6 81 RX1 yX1_furnish wsX1_furnish) := goodIn_app (goodIn_of _ (by decide +kernel)) ggX6_house_X1_furnish
theorem dX6_house_0 : decode cX6_house 0 = .ok (.iload_n 1, 1) := by decide +kernel
theorem dX6_house_1 : decode cX6_house 1 = .ok (.invokestatic 74, 3) := by decide +kernel
theorem dX6_house_4 : decode cX6_house 4 = .ok (.ifCond .ne 5, 3) := by decide +kernel
theorem dX6_house_7 : decode cX6_house 7 = .ok (.iconst (-1), 1) := by decide +kernel
theorem dX6_house_8 : decode cX6_house 8 = .ok (.ireturn, 1) := by decide +kernel
theorem dX6_house_9 : decode cX6_house 9 = .ok (.iload_n 2, 1) := by decide +kernel
theorem dX6_house_10 : decode cX6_house 10 = .ok (.iconst 0, 1) := by decide +kernel
theorem dX6_house_11 : decode cX6_house 11 = .ok (.bipush 9, 2) := by decide +kernel
theorem dX6_house_13 : decode cX6_house 13 = .ok (.invokestatic 62, 3) := by decide +kernel
theorem dX6_house_16 : decode cX6_house 16 = .ok (.ifCond .eq 12, 3) := by decide +kernel
theorem dX6_house_19 : decode cX6_house 19 = .ok (.iload_n 3, 1) := by decide +kernel
theorem dX6_house_20 : decode cX6_house 20 = .ok (.iconst 0, 1) := by decide +kernel
theorem dX6_house_21 : decode cX6_house 21 = .ok (.iconst 1, 1) := by decide +kernel
theorem dX6_house_22 : decode cX6_house 22 = .ok (.invokestatic 62, 3) := by decide +kernel
theorem dX6_house_25 : decode cX6_house 25 = .ok (.ifCond .ne 6, 3) := by decide +kernel
theorem dX6_house_28 : decode cX6_house 28 = .ok (.bipush (-2), 2) := by decide +kernel
theorem dX6_house_30 : decode cX6_house 30 = .ok (.ireturn, 1) := by decide +kernel
theorem dX6_house_31 : decode cX6_house 31 = .ok (.aload_n 0, 1) := by decide +kernel
theorem dX6_house_32 : decode cX6_house 32 = .ok (.getfield 12, 3) := by decide +kernel
theorem dX6_house_35 : decode cX6_house 35 = .ok (.iload_n 1, 1) := by decide +kernel
theorem dX6_house_36 : decode cX6_house 36 = .ok (.invokevirtual 77, 3) := by decide +kernel
theorem dX6_house_39 : decode cX6_house 39 = .ok (.istore 4, 2) := by decide +kernel
theorem dX6_house_41 : decode cX6_house 41 = .ok (.aload_n 0, 1) := by decide +kernel
theorem dX6_house_42 : decode cX6_house 42 = .ok (.getfield 12, 3) := by decide +kernel
theorem dX6_house_45 : decode cX6_house 45 = .ok (.iload_n 1, 1) := by decide +kernel
theorem dX6_house_46 : decode cX6_house 46 = .ok (.iload_n 2, 1) := by decide +kernel
theorem dX6_house_47 : decode cX6_house 47 = .ok (.iload_n 3, 1) := by decide +kernel
theorem dX6_house_48 : decode cX6_house 48 = .ok (.invokevirtual 81, 3) := by decide +kernel
theorem dX6_house_51 : decode cX6_house 51 = .ok (.iload 4, 2) := by decide +kernel
theorem dX6_house_53 : decode cX6_house 53 = .ok (.ireturn, 1) := by decide +kernel
set_option maxRecDepth 20000 in
theorem ggX6_tell_X6_isHouse : GoodIn wsX6_tell wsX6_isHouse := goodIn_r _ [5] (by decide +kernel) (by decide +kernel)
set_option maxRecDepth 20000 in
theorem gX6_tell_X6_isHouse : GoodIn wsX6_tell (va_wsS RX6 74 yX6_isHouse wsX6_isHouse) := goodIn_app (goodIn_of _ (by decide +kernel)) ggX6_tell_X6_isHouse
set_option maxRecDepth 20000 in
theorem ggX6_tell_X6_isTale : GoodIn wsX6_tell wsX6_isTale := goodIn_r _ [8] (by decide +kernel) (by decide +kernel)
set_option maxRecDepth 20000 in
theorem gX6_tell_X6_isTale : GoodIn wsX6_tell (va_wsS RX6 84 yX6_isTale wsX6_isTale) := goodIn_app (goodIn_of _ (by decide +kernel)) ggX6_tell_X6_isTale
set_option maxRecDepth 20000 in
theorem ggX6_tell_X1_beliefOf : GoodIn wsX6_tell wsX1_beliefOf := goodIn_r _ [13, 14, 3, 4, 5, 27, 28, 29, 30, 31, 32, 33, 34, 35, 36, 37, 38] (by decide +kernel) (by decide +kernel)
set_option maxRecDepth 20000 in
theorem gX6_tell_X1_beliefOf : GoodIn wsX6_tell (wsV RX6 87 RX1 yX1_beliefOf wsX1_beliefOf) := goodIn_app (goodIn_of _ (by decide +kernel)) ggX6_tell_X1_beliefOf
set_option maxRecDepth 20000 in
theorem ggX6_tell_X1_convince : GoodIn wsX6_tell wsX1_convince := goodIn_r _ [18, 14, 3, 4, 5, 27, 28, 29, 30, 31, 32, 33, 34, 35, 36, 37, 38] (by decide +kernel) (by decide +kernel)
set_option maxRecDepth 20000 in
theorem gX6_tell_X1_convince : GoodIn wsX6_tell (wsV RX6 90 RX1 yX1_convince wsX1_convince) := goodIn_app (goodIn_of _ (by decide +kernel)) ggX6_tell_X1_convince
theorem dX6_tell_0 : decode cX6_tell 0 = .ok (.iload_n 1, 1) := by decide +kernel
theorem dX6_tell_1 : decode cX6_tell 1 = .ok (.invokestatic 74, 3) := by decide +kernel
theorem dX6_tell_4 : decode cX6_tell 4 = .ok (.ifCond .eq 15, 3) := by decide +kernel
theorem dX6_tell_7 : decode cX6_tell 7 = .ok (.iload_n 2, 1) := by decide +kernel
theorem dX6_tell_8 : decode cX6_tell 8 = .ok (.invokestatic 84, 3) := by decide +kernel
theorem dX6_tell_11 : decode cX6_tell 11 = .ok (.ifCond .ne 10, 3) := by decide +kernel
theorem dX6_tell_14 : decode cX6_tell 14 = .ok (.iload_n 2, 1) := by decide +kernel
theorem dX6_tell_15 : decode cX6_tell 15 = .ok (.iconst (-1), 1) := by decide +kernel
theorem dX6_tell_16 : decode cX6_tell 16 = .ok (.if_icmp .eq 5, 3) := by decide +kernel
theorem dX6_tell_19 : decode cX6_tell 19 = .ok (.iconst (-1), 1) := by decide +kernel
theorem dX6_tell_20 : decode cX6_tell 20 = .ok (.ireturn, 1) := by decide +kernel
theorem dX6_tell_21 : decode cX6_tell 21 = .ok (.aload_n 0, 1) := by decide +kernel
theorem dX6_tell_22 : decode cX6_tell 22 = .ok (.getfield 12, 3) := by decide +kernel
theorem dX6_tell_25 : decode cX6_tell 25 = .ok (.iload_n 1, 1) := by decide +kernel
theorem dX6_tell_26 : decode cX6_tell 26 = .ok (.invokevirtual 87, 3) := by decide +kernel
theorem dX6_tell_29 : decode cX6_tell 29 = .ok (.istore_n 3, 1) := by decide +kernel
theorem dX6_tell_30 : decode cX6_tell 30 = .ok (.aload_n 0, 1) := by decide +kernel
theorem dX6_tell_31 : decode cX6_tell 31 = .ok (.getfield 12, 3) := by decide +kernel
theorem dX6_tell_34 : decode cX6_tell 34 = .ok (.iload_n 1, 1) := by decide +kernel
theorem dX6_tell_35 : decode cX6_tell 35 = .ok (.iload_n 2, 1) := by decide +kernel
theorem dX6_tell_36 : decode cX6_tell 36 = .ok (.iconst (-1), 1) := by decide +kernel
theorem dX6_tell_37 : decode cX6_tell 37 = .ok (.if_icmp .ne 8, 3) := by decide +kernel
theorem dX6_tell_40 : decode cX6_tell 40 = .ok (.bipush (-6), 2) := by decide +kernel
theorem dX6_tell_42 : decode cX6_tell 42 = .ok (.goto 4, 3) := by decide +kernel
theorem dX6_tell_45 : decode cX6_tell 45 = .ok (.iload_n 2, 1) := by decide +kernel
theorem dX6_tell_46 : decode cX6_tell 46 = .ok (.invokevirtual 90, 3) := by decide +kernel
theorem dX6_tell_49 : decode cX6_tell 49 = .ok (.iload_n 3, 1) := by decide +kernel
theorem dX6_tell_50 : decode cX6_tell 50 = .ok (.ireturn, 1) := by decide +kernel
set_option maxRecDepth 20000 in
theorem ggX6_fade_X6_isTale : GoodIn wsX6_fade wsX6_isTale := goodIn_r _ [5] (by decide +kernel) (by decide +kernel)
set_option maxRecDepth 20000 in
theorem gX6_fade_X6_isTale : GoodIn wsX6_fade (va_wsS RX6 84 yX6_isTale wsX6_isTale) := goodIn_app (goodIn_of _ (by decide +kernel)) ggX6_fade_X6_isTale
set_option maxRecDepth 20000 in
theorem ggX6_fade_X1_fadesInto : GoodIn wsX6_fade wsX1_fadesInto := goodIn_r _ [10, 11, 3, 4, 5, 24, 25, 26, 27, 28, 29, 30, 31, 32, 33, 34, 35] (by decide +kernel) (by decide +kernel)
set_option maxRecDepth 20000 in
theorem gX6_fade_X1_fadesInto : GoodIn wsX6_fade (wsV RX6 94 RX1 yX1_fadesInto wsX1_fadesInto) := goodIn_app (goodIn_of _ (by decide +kernel)) ggX6_fade_X1_fadesInto
set_option maxRecDepth 20000 in
theorem ggX6_fade_X1_letFade : GoodIn wsX6_fade wsX1_letFade := goodIn_r _ [15, 11, 3, 4, 5, 24, 25, 26, 27, 28, 29, 30, 31, 32, 33, 34, 35] (by decide +kernel) (by decide +kernel)
set_option maxRecDepth 20000 in
theorem gX6_fade_X1_letFade : GoodIn wsX6_fade (wsV RX6 97 RX1 yX1_letFade wsX1_letFade) := goodIn_app (goodIn_of _ (by decide +kernel)) ggX6_fade_X1_letFade
theorem dX6_fade_0 : decode cX6_fade 0 = .ok (.iload_n 1, 1) := by decide +kernel
theorem dX6_fade_1 : decode cX6_fade 1 = .ok (.invokestatic 84, 3) := by decide +kernel
theorem dX6_fade_4 : decode cX6_fade 4 = .ok (.ifCond .eq 10, 3) := by decide +kernel
theorem dX6_fade_7 : decode cX6_fade 7 = .ok (.iload_n 2, 1) := by decide +kernel
theorem dX6_fade_8 : decode cX6_fade 8 = .ok (.invokestatic 84, 3) := by decide +kernel
theorem dX6_fade_11 : decode cX6_fade 11 = .ok (.ifCond .ne 5, 3) := by decide +kernel
theorem dX6_fade_14 : decode cX6_fade 14 = .ok (.iconst (-1), 1) := by decide +kernel
theorem dX6_fade_15 : decode cX6_fade 15 = .ok (.ireturn, 1) := by decide +kernel
theorem dX6_fade_16 : decode cX6_fade 16 = .ok (.aload_n 0, 1) := by decide +kernel
theorem dX6_fade_17 : decode cX6_fade 17 = .ok (.getfield 12, 3) := by decide +kernel
theorem dX6_fade_20 : decode cX6_fade 20 = .ok (.iload_n 1, 1) := by decide +kernel
theorem dX6_fade_21 : decode cX6_fade 21 = .ok (.invokevirtual 94, 3) := by decide +kernel
theorem dX6_fade_24 : decode cX6_fade 24 = .ok (.istore_n 3, 1) := by decide +kernel
theorem dX6_fade_25 : decode cX6_fade 25 = .ok (.aload_n 0, 1) := by decide +kernel
theorem dX6_fade_26 : decode cX6_fade 26 = .ok (.getfield 12, 3) := by decide +kernel
theorem dX6_fade_29 : decode cX6_fade 29 = .ok (.iload_n 1, 1) := by decide +kernel
theorem dX6_fade_30 : decode cX6_fade 30 = .ok (.iload_n 2, 1) := by decide +kernel
theorem dX6_fade_31 : decode cX6_fade 31 = .ok (.invokevirtual 97, 3) := by decide +kernel
theorem dX6_fade_34 : decode cX6_fade 34 = .ok (.iload_n 3, 1) := by decide +kernel
theorem dX6_fade_35 : decode cX6_fade 35 = .ok (.ireturn, 1) := by decide +kernel
set_option maxRecDepth 20000 in
theorem ggX6_say_X6_within : GoodIn wsX6_say wsX6_within := goodIn_r _ [5] (by decide +kernel) (by decide +kernel)
set_option maxRecDepth 20000 in
theorem gX6_say_X6_within : GoodIn wsX6_say (va_wsS RX6 62 yX6_within wsX6_within) := goodIn_app (goodIn_of _ (by decide +kernel)) ggX6_say_X6_within
set_option maxRecDepth 20000 in
theorem ggX6_say_X3_add : GoodIn wsX6_say wsX3_add := goodIn_r _ [10, 11, 12, 3, 4, 5, 25, 26] (by decide +kernel) (by decide +kernel)
set_option maxRecDepth 20000 in
theorem gX6_say_X3_add : GoodIn wsX6_say (wsV RX6 100 RX3 yX3_add wsX3_add) := goodIn_app (goodIn_of _ (by decide +kernel)) ggX6_say_X3_add
set_option maxRecDepth 20000 in
theorem ggX6_say_X3_size : GoodIn wsX6_say wsX3_size := goodIn_r _ [16, 11, 25, 26] (by decide +kernel) (by decide +kernel)
set_option maxRecDepth 20000 in
theorem gX6_say_X3_size : GoodIn wsX6_say (wsV RX6 103 RX3 yX3_size wsX3_size) := goodIn_app (goodIn_of _ (by decide +kernel)) ggX6_say_X3_size
theorem dX6_say_0 : decode cX6_say 0 = .ok (.iload_n 1, 1) := by decide +kernel
theorem dX6_say_1 : decode cX6_say 1 = .ok (.bipush 33, 2) := by decide +kernel
theorem dX6_say_3 : decode cX6_say 3 = .ok (.bipush 126, 2) := by decide +kernel
theorem dX6_say_5 : decode cX6_say 5 = .ok (.invokestatic 62, 3) := by decide +kernel
theorem dX6_say_8 : decode cX6_say 8 = .ok (.ifCond .ne 6, 3) := by decide +kernel
theorem dX6_say_11 : decode cX6_say 11 = .ok (.bipush (-2), 2) := by decide +kernel
theorem dX6_say_13 : decode cX6_say 13 = .ok (.ireturn, 1) := by decide +kernel
theorem dX6_say_14 : decode cX6_say 14 = .ok (.aload_n 0, 1) := by decide +kernel
theorem dX6_say_15 : decode cX6_say 15 = .ok (.getfield 26, 3) := by decide +kernel
theorem dX6_say_18 : decode cX6_say 18 = .ok (.iload_n 1, 1) := by decide +kernel
theorem dX6_say_19 : decode cX6_say 19 = .ok (.invokevirtual 100, 3) := by decide +kernel
theorem dX6_say_22 : decode cX6_say 22 = .ok (.ifCond .eq 13, 3) := by decide +kernel
theorem dX6_say_25 : decode cX6_say 25 = .ok (.aload_n 0, 1) := by decide +kernel
theorem dX6_say_26 : decode cX6_say 26 = .ok (.getfield 26, 3) := by decide +kernel
theorem dX6_say_29 : decode cX6_say 29 = .ok (.invokevirtual 103, 3) := by decide +kernel
theorem dX6_say_32 : decode cX6_say 32 = .ok (.goto 5, 3) := by decide +kernel
theorem dX6_say_35 : decode cX6_say 35 = .ok (.bipush (-4), 2) := by decide +kernel
theorem dX6_say_37 : decode cX6_say 37 = .ok (.ireturn, 1) := by decide +kernel
set_option maxRecDepth 20000 in
theorem ggX6_wipe_X3_size : GoodIn wsX6_wipe wsX3_size := goodIn_r _ [6, 7, 20, 21] (by decide +kernel) (by decide +kernel)
set_option maxRecDepth 20000 in
theorem gX6_wipe_X3_size : GoodIn wsX6_wipe (wsV RX6 103 RX3 yX3_size wsX3_size) := goodIn_app (goodIn_of _ (by decide +kernel)) ggX6_wipe_X3_size
set_option maxRecDepth 20000 in
theorem ggX6_wipe_X3_clear : GoodIn wsX6_wipe wsX3_clear := goodIn_r _ [11, 7, 20, 21] (by decide +kernel) (by decide +kernel)
set_option maxRecDepth 20000 in
theorem gX6_wipe_X3_clear : GoodIn wsX6_wipe (wsV RX6 107 RX3 yX3_clear wsX3_clear) := goodIn_app (goodIn_of _ (by decide +kernel)) ggX6_wipe_X3_clear
theorem dX6_wipe_0 : decode cX6_wipe 0 = .ok (.aload_n 0, 1) := by decide +kernel
theorem dX6_wipe_1 : decode cX6_wipe 1 = .ok (.getfield 26, 3) := by decide +kernel
theorem dX6_wipe_4 : decode cX6_wipe 4 = .ok (.invokevirtual 103, 3) := by decide +kernel
theorem dX6_wipe_7 : decode cX6_wipe 7 = .ok (.istore_n 1, 1) := by decide +kernel
theorem dX6_wipe_8 : decode cX6_wipe 8 = .ok (.aload_n 0, 1) := by decide +kernel
theorem dX6_wipe_9 : decode cX6_wipe 9 = .ok (.getfield 26, 3) := by decide +kernel
theorem dX6_wipe_12 : decode cX6_wipe 12 = .ok (.invokevirtual 107, 3) := by decide +kernel
theorem dX6_wipe_15 : decode cX6_wipe 15 = .ok (.iload_n 1, 1) := by decide +kernel
theorem dX6_wipe_16 : decode cX6_wipe 16 = .ok (.ireturn, 1) := by decide +kernel
set_option maxRecDepth 20000 in
theorem ggX6_judge_X6_within : GoodIn wsX6_judge wsX6_within := goodIn_r _ [8] (by decide +kernel) (by decide +kernel)
set_option maxRecDepth 20000 in
theorem gX6_judge_X6_within : GoodIn wsX6_judge (va_wsS RX6 62 yX6_within wsX6_within) := goodIn_app (goodIn_of _ (by decide +kernel)) ggX6_judge_X6_within
set_option maxRecDepth 20000 in
theorem ggX6_judge_X2_pass : GoodIn wsX6_judge wsX2_pass := goodIn_r _ [13, 14, 15, 16, 17, 18, 19, 20, 21, 22, 23, 24, 25, 26, 27, 28, 29, 30, 31, 32, 33, 34, 6, 7, 8, 35, 36, 37, 38, 39, 40, 41, 42, 43, 44, 45, 46, 47, 48, 49, 50, 51, 52, 53, 54, 55, 56, 57, 58, 59, 60, 61, 62, 63, 64, 65, 66, 67, 68, 69, 70, 71, 72, 73, 74, 75, 76, 77, 78, 79, 80, 81, 82, 83, 84, 85, 86, 12, 87, 88, 89, 90, 91, 92, 93, 94, 95, 96, 97, 98, 99, 100, 101, 102, 103, 104, 105, 106, 107, 108, 109, 110, 111, 112, 113, 114, 115, 116, 117, 118, 119, 120, 121, 122, 123, 124, 125, 126, 127, 128, 129, 130, 131, 132, 133, 134, 135, 136, 137, 138, 139, 140, 141, 142, 151, 152, 153, 154, 155, 156, 157, 158, 159, 160, 161, 162, 163, 164, 165, 166, 167, 168, 169, 170] (by decide +kernel) (by decide +kernel)
set_option maxRecDepth 20000 in
theorem gX6_judge_X2_pass : GoodIn wsX6_judge (wsV RX6 113 RX2 yX2_pass wsX2_pass) := goodIn_app (goodIn_of _ (by decide +kernel)) ggX6_judge_X2_pass
theorem dX6_judge_0 : decode cX6_judge 0 = .ok (.iload_n 1, 1) := by decide +kernel
theorem dX6_judge_1 : decode cX6_judge 1 = .ok (.iconst 0, 1) := by decide +kernel
theorem dX6_judge_2 : decode cX6_judge 2 = .ok (.iconst 2, 1) := by decide +kernel
theorem dX6_judge_3 : decode cX6_judge 3 = .ok (.invokestatic 62, 3) := by decide +kernel
theorem dX6_judge_6 : decode cX6_judge 6 = .ok (.ifCond .ne 6, 3) := by decide +kernel
theorem dX6_judge_9 : decode cX6_judge 9 = .ok (.bipush (-2), 2) := by decide +kernel
theorem dX6_judge_11 : decode cX6_judge 11 = .ok (.ireturn, 1) := by decide +kernel
theorem dX6_judge_12 : decode cX6_judge 12 = .ok (.aload_n 0, 1) := by decide +kernel
theorem dX6_judge_13 : decode cX6_judge 13 = .ok (.getfield 33, 3) := by decide +kernel
theorem dX6_judge_16 : decode cX6_judge 16 = .ok (.aload_n 0, 1) := by decide +kernel
theorem dX6_judge_17 : decode cX6_judge 17 = .ok (.getfield 26, 3) := by decide +kernel
theorem dX6_judge_20 : decode cX6_judge 20 = .ok (.aload_n 0, 1) := by decide +kernel
theorem dX6_judge_21 : decode cX6_judge 21 = .ok (.getfield 16, 3) := by decide +kernel
theorem dX6_judge_24 : decode cX6_judge 24 = .ok (.aload_n 0, 1) := by decide +kernel
theorem dX6_judge_25 : decode cX6_judge 25 = .ok (.getfield 12, 3) := by decide +kernel
theorem dX6_judge_28 : decode cX6_judge 28 = .ok (.invokevirtual 113, 3) := by decide +kernel
theorem dX6_judge_31 : decode cX6_judge 31 = .ok (.istore_n 2, 1) := by decide +kernel
theorem dX6_judge_32 : decode cX6_judge 32 = .ok (.iload_n 2, 1) := by decide +kernel
theorem dX6_judge_33 : decode cX6_judge 33 = .ok (.bipush (-5), 2) := by decide +kernel
theorem dX6_judge_35 : decode cX6_judge 35 = .ok (.if_icmp .eq 14, 3) := by decide +kernel
theorem dX6_judge_38 : decode cX6_judge 38 = .ok (.iload_n 2, 1) := by decide +kernel
theorem dX6_judge_39 : decode cX6_judge 39 = .ok (.bipush (-3), 2) := by decide +kernel
theorem dX6_judge_41 : decode cX6_judge 41 = .ok (.if_icmp .ne 10, 3) := by decide +kernel
theorem dX6_judge_44 : decode cX6_judge 44 = .ok (.iload_n 1, 1) := by decide +kernel
theorem dX6_judge_45 : decode cX6_judge 45 = .ok (.iconst 2, 1) := by decide +kernel
theorem dX6_judge_46 : decode cX6_judge 46 = .ok (.if_icmp .ne 5, 3) := by decide +kernel
theorem dX6_judge_49 : decode cX6_judge 49 = .ok (.iload_n 2, 1) := by decide +kernel
theorem dX6_judge_50 : decode cX6_judge 50 = .ok (.ireturn, 1) := by decide +kernel
theorem dX6_judge_51 : decode cX6_judge 51 = .ok (.iload_n 1, 1) := by decide +kernel
theorem dX6_judge_52 : decode cX6_judge 52 = .ok (.lookupswitch 44 #[(0, 28), (1, 36)], 28) := by decide +kernel
theorem dX6_judge_80 : decode cX6_judge 80 = .ok (.aload_n 0, 1) := by decide +kernel
theorem dX6_judge_81 : decode cX6_judge 81 = .ok (.getfield 33, 3) := by decide +kernel
theorem dX6_judge_84 : decode cX6_judge 84 = .ok (.getfield 117, 3) := by decide +kernel
theorem dX6_judge_87 : decode cX6_judge 87 = .ok (.ireturn, 1) := by decide +kernel
theorem dX6_judge_88 : decode cX6_judge 88 = .ok (.aload_n 0, 1) := by decide +kernel
theorem dX6_judge_89 : decode cX6_judge 89 = .ok (.getfield 33, 3) := by decide +kernel
theorem dX6_judge_92 : decode cX6_judge 92 = .ok (.getfield 121, 3) := by decide +kernel
theorem dX6_judge_95 : decode cX6_judge 95 = .ok (.ireturn, 1) := by decide +kernel
theorem dX6_judge_96 : decode cX6_judge 96 = .ok (.aload_n 0, 1) := by decide +kernel
theorem dX6_judge_97 : decode cX6_judge 97 = .ok (.getfield 33, 3) := by decide +kernel
theorem dX6_judge_100 : decode cX6_judge 100 = .ok (.getfield 124, 3) := by decide +kernel
theorem dX6_judge_103 : decode cX6_judge 103 = .ok (.ireturn, 1) := by decide +kernel
set_option maxRecDepth 20000 in
theorem ggX6_behind_X6_isHouse : GoodIn wsX6_behind wsX6_isHouse := goodIn_r _ [8] (by decide +kernel) (by decide +kernel)
set_option maxRecDepth 20000 in
theorem gX6_behind_X6_isHouse : GoodIn wsX6_behind (va_wsS RX6 74 yX6_isHouse wsX6_isHouse) := goodIn_app (goodIn_of _ (by decide +kernel)) ggX6_behind_X6_isHouse
set_option maxRecDepth 20000 in
theorem ggX6_behind_X6_within : GoodIn wsX6_behind wsX6_within := goodIn_r _ [11] (by decide +kernel) (by decide +kernel)
set_option maxRecDepth 20000 in
theorem gX6_behind_X6_within : GoodIn wsX6_behind (va_wsS RX6 62 yX6_within wsX6_within) := goodIn_app (goodIn_of _ (by decide +kernel)) ggX6_behind_X6_within
set_option maxRecDepth 20000 in
theorem ggX6_behind_X2_pass : GoodIn wsX6_behind wsX2_pass := goodIn_r _ [16, 17, 18, 19, 20, 21, 22, 23, 24, 25, 26, 27, 28, 29, 30, 31, 32, 33, 34, 35, 36, 37, 10, 7, 11, 38, 39, 40, 41, 42, 43, 44, 45, 46, 47, 48, 49, 50, 51, 52, 53, 54, 55, 56, 57, 58, 59, 60, 61, 62, 63, 64, 65, 66, 67, 68, 69, 70, 71, 72, 73, 74, 75, 76, 77, 78, 79, 80, 81, 82, 83, 84, 85, 86, 87, 88, 89, 15, 90, 91, 92, 93, 94, 95, 96, 97, 98, 6, 8, 99, 100, 101, 102, 103, 104, 105, 106, 107, 108, 109, 110, 111, 112, 113, 114, 115, 116, 117, 118, 119, 120, 121, 122, 123, 124, 125, 126, 127, 128, 129, 130, 131, 132, 133, 134, 135, 136, 137, 138, 139, 140, 141, 142, 143, 157, 158, 159, 160, 161, 162, 163, 164, 165, 166, 167, 168, 169, 170, 171, 172, 173, 174, 175, 176] (by decide +kernel) (by decide +kernel)
set_option maxRecDepth 20000 in
theorem gX6_behind_X2_pass : GoodIn wsX6_behind (wsV RX6 113 RX2 yX2_pass wsX2_pass) := goodIn_app (goodIn_of _ (by decide +kernel)) ggX6_behind_X2_pass
set_option maxRecDepth 20000 in
theorem ggX6_behind_X1_houseFact : GoodIn wsX6_behind wsX1_houseFact := goodIn_r _ [147, 148, 96, 97, 49, 98, 58, 6, 7, 8, 126, 127, 128, 129, 56, 114, 115, 116, 117, 57, 165, 166, 167, 168, 169, 170, 171, 172, 173, 174, 175, 176] (by decide +kernel) (by decide +kernel)
set_option maxRecDepth 20000 in
theorem gX6_behind_X1_houseFact : GoodIn wsX6_behind (wsV RX6 127 RX1 yX1_houseFact wsX1_houseFact) := goodIn_app (goodIn_of _ (by decide +kernel)) ggX6_behind_X1_houseFact
theorem dX6_behind_0 : decode cX6_behind 0 = .ok (.iload_n 1, 1) := by decide +kernel
theorem dX6_behind_1 : decode cX6_behind 1 = .ok (.invokestatic 74, 3) := by decide +kernel
theorem dX6_behind_4 : decode cX6_behind 4 = .ok (.ifCond .ne 5, 3) := by decide +kernel
theorem dX6_behind_7 : decode cX6_behind 7 = .ok (.iconst (-1), 1) := by decide +kernel
theorem dX6_behind_8 : decode cX6_behind 8 = .ok (.ireturn, 1) := by decide +kernel
theorem dX6_behind_9 : decode cX6_behind 9 = .ok (.iload_n 2, 1) := by decide +kernel
theorem dX6_behind_10 : decode cX6_behind 10 = .ok (.iconst 0, 1) := by decide +kernel
theorem dX6_behind_11 : decode cX6_behind 11 = .ok (.iconst 2, 1) := by decide +kernel
theorem dX6_behind_12 : decode cX6_behind 12 = .ok (.invokestatic 62, 3) := by decide +kernel
theorem dX6_behind_15 : decode cX6_behind 15 = .ok (.ifCond .ne 6, 3) := by decide +kernel
theorem dX6_behind_18 : decode cX6_behind 18 = .ok (.bipush (-2), 2) := by decide +kernel
theorem dX6_behind_20 : decode cX6_behind 20 = .ok (.ireturn, 1) := by decide +kernel
theorem dX6_behind_21 : decode cX6_behind 21 = .ok (.aload_n 0, 1) := by decide +kernel
theorem dX6_behind_22 : decode cX6_behind 22 = .ok (.getfield 33, 3) := by decide +kernel
theorem dX6_behind_25 : decode cX6_behind 25 = .ok (.aload_n 0, 1) := by decide +kernel
theorem dX6_behind_26 : decode cX6_behind 26 = .ok (.getfield 26, 3) := by decide +kernel
theorem dX6_behind_29 : decode cX6_behind 29 = .ok (.aload_n 0, 1) := by decide +kernel
theorem dX6_behind_30 : decode cX6_behind 30 = .ok (.getfield 16, 3) := by decide +kernel
theorem dX6_behind_33 : decode cX6_behind 33 = .ok (.aload_n 0, 1) := by decide +kernel
theorem dX6_behind_34 : decode cX6_behind 34 = .ok (.getfield 12, 3) := by decide +kernel
theorem dX6_behind_37 : decode cX6_behind 37 = .ok (.invokevirtual 113, 3) := by decide +kernel
theorem dX6_behind_40 : decode cX6_behind 40 = .ok (.istore_n 3, 1) := by decide +kernel
theorem dX6_behind_41 : decode cX6_behind 41 = .ok (.iload_n 3, 1) := by decide +kernel
theorem dX6_behind_42 : decode cX6_behind 42 = .ok (.ifCond .ne 15, 3) := by decide +kernel
theorem dX6_behind_45 : decode cX6_behind 45 = .ok (.aload_n 0, 1) := by decide +kernel
theorem dX6_behind_46 : decode cX6_behind 46 = .ok (.getfield 16, 3) := by decide +kernel
theorem dX6_behind_49 : decode cX6_behind 49 = .ok (.iload_n 1, 1) := by decide +kernel
theorem dX6_behind_50 : decode cX6_behind 50 = .ok (.iload_n 2, 1) := by decide +kernel
theorem dX6_behind_51 : decode cX6_behind 51 = .ok (.invokevirtual 127, 3) := by decide +kernel
theorem dX6_behind_54 : decode cX6_behind 54 = .ok (.goto 4, 3) := by decide +kernel
theorem dX6_behind_57 : decode cX6_behind 57 = .ok (.iload_n 3, 1) := by decide +kernel
theorem dX6_behind_58 : decode cX6_behind 58 = .ok (.ireturn, 1) := by decide +kernel
set_option maxRecDepth 20000 in
theorem ggX6_pan_X6_within : GoodIn wsX6_pan wsX6_within := goodIn_r _ [8] (by decide +kernel) (by decide +kernel)
set_option maxRecDepth 20000 in
theorem gX6_pan_X6_within : GoodIn wsX6_pan (va_wsS RX6 62 yX6_within wsX6_within) := goodIn_app (goodIn_of _ (by decide +kernel)) ggX6_pan_X6_within
set_option maxRecDepth 20000 in
theorem ggX6_pan_X2_pass : GoodIn wsX6_pan wsX2_pass := goodIn_r _ [13, 14, 15, 16, 17, 18, 19, 20, 21, 22, 23, 24, 25, 26, 27, 28, 29, 30, 31, 32, 33, 34, 6, 7, 8, 35, 36, 37, 38, 39, 40, 41, 42, 43, 44, 45, 46, 47, 48, 49, 50, 51, 52, 53, 54, 55, 56, 57, 58, 59, 60, 61, 62, 63, 64, 65, 66, 67, 68, 69, 70, 71, 72, 73, 74, 75, 76, 77, 78, 79, 80, 81, 82, 83, 84, 85, 86, 12, 87, 88, 89, 90, 91, 92, 93, 94, 95, 96, 97, 98, 99, 100, 101, 102, 103, 104, 105, 106, 107, 108, 109, 110, 111, 112, 113, 114, 115, 116, 117, 118, 119, 120, 121, 122, 123, 124, 125, 126, 127, 128, 129, 130, 131, 132, 133, 134, 135, 136, 137, 138, 139, 140, 141, 142, 152, 153, 154, 155, 156, 157, 158, 159, 160, 161, 162, 163, 164, 165, 166, 167, 168, 169, 170, 171] (by decide +kernel) (by decide +kernel)
set_option maxRecDepth 20000 in
theorem gX6_pan_X2_pass : GoodIn wsX6_pan (wsV RX6 113 RX2 yX2_pass wsX2_pass) := goodIn_app (goodIn_of _ (by decide +kernel)) ggX6_pan_X2_pass
set_option maxRecDepth 20000 in
theorem ggX6_pan_X1_panFact : GoodIn wsX6_pan wsX1_panFact := goodIn_r _ [91, 60, 61, 62, 63, 160, 161, 162, 163, 164, 165, 166, 167, 168, 169, 170, 171] (by decide +kernel) (by decide +kernel)
set_option maxRecDepth 20000 in
theorem gX6_pan_X1_panFact : GoodIn wsX6_pan (wsV RX6 130 RX1 yX1_panFact wsX1_panFact) := goodIn_app (goodIn_of _ (by decide +kernel)) ggX6_pan_X1_panFact
theorem dX6_pan_0 : decode cX6_pan 0 = .ok (.iload_n 1, 1) := by decide +kernel
theorem dX6_pan_1 : decode cX6_pan 1 = .ok (.iconst 0, 1) := by decide +kernel
theorem dX6_pan_2 : decode cX6_pan 2 = .ok (.iconst 3, 1) := by decide +kernel
theorem dX6_pan_3 : decode cX6_pan 3 = .ok (.invokestatic 62, 3) := by decide +kernel
theorem dX6_pan_6 : decode cX6_pan 6 = .ok (.ifCond .ne 6, 3) := by decide +kernel
theorem dX6_pan_9 : decode cX6_pan 9 = .ok (.bipush (-2), 2) := by decide +kernel
theorem dX6_pan_11 : decode cX6_pan 11 = .ok (.ireturn, 1) := by decide +kernel
theorem dX6_pan_12 : decode cX6_pan 12 = .ok (.aload_n 0, 1) := by decide +kernel
theorem dX6_pan_13 : decode cX6_pan 13 = .ok (.getfield 33, 3) := by decide +kernel
theorem dX6_pan_16 : decode cX6_pan 16 = .ok (.aload_n 0, 1) := by decide +kernel
theorem dX6_pan_17 : decode cX6_pan 17 = .ok (.getfield 26, 3) := by decide +kernel
theorem dX6_pan_20 : decode cX6_pan 20 = .ok (.aload_n 0, 1) := by decide +kernel
theorem dX6_pan_21 : decode cX6_pan 21 = .ok (.getfield 16, 3) := by decide +kernel
theorem dX6_pan_24 : decode cX6_pan 24 = .ok (.aload_n 0, 1) := by decide +kernel
theorem dX6_pan_25 : decode cX6_pan 25 = .ok (.getfield 12, 3) := by decide +kernel
theorem dX6_pan_28 : decode cX6_pan 28 = .ok (.invokevirtual 113, 3) := by decide +kernel
theorem dX6_pan_31 : decode cX6_pan 31 = .ok (.istore_n 2, 1) := by decide +kernel
theorem dX6_pan_32 : decode cX6_pan 32 = .ok (.iload_n 2, 1) := by decide +kernel
theorem dX6_pan_33 : decode cX6_pan 33 = .ok (.ifCond .ne 14, 3) := by decide +kernel
theorem dX6_pan_36 : decode cX6_pan 36 = .ok (.aload_n 0, 1) := by decide +kernel
theorem dX6_pan_37 : decode cX6_pan 37 = .ok (.getfield 16, 3) := by decide +kernel
theorem dX6_pan_40 : decode cX6_pan 40 = .ok (.iload_n 1, 1) := by decide +kernel
theorem dX6_pan_41 : decode cX6_pan 41 = .ok (.invokevirtual 130, 3) := by decide +kernel
theorem dX6_pan_44 : decode cX6_pan 44 = .ok (.goto 4, 3) := by decide +kernel
theorem dX6_pan_47 : decode cX6_pan 47 = .ok (.iload_n 2, 1) := by decide +kernel
theorem dX6_pan_48 : decode cX6_pan 48 = .ok (.ireturn, 1) := by decide +kernel
set_option maxRecDepth 20000 in
theorem ggX6_holds_X6_isTale : GoodIn wsX6_holds wsX6_isTale := goodIn_r _ [8] (by decide +kernel) (by decide +kernel)
set_option maxRecDepth 20000 in
theorem gX6_holds_X6_isTale : GoodIn wsX6_holds (va_wsS RX6 84 yX6_isTale wsX6_isTale) := goodIn_app (goodIn_of _ (by decide +kernel)) ggX6_holds_X6_isTale
set_option maxRecDepth 20000 in
theorem ggX6_holds_X2_pass : GoodIn wsX6_holds wsX2_pass := goodIn_r _ [13, 14, 15, 16, 17, 18, 19, 20, 21, 22, 23, 24, 25, 26, 27, 28, 29, 30, 31, 32, 33, 34, 35, 7, 36, 37, 38, 39, 40, 41, 42, 43, 44, 45, 46, 47, 48, 49, 50, 51, 52, 53, 54, 55, 56, 57, 58, 59, 60, 61, 62, 63, 64, 65, 66, 67, 68, 69, 70, 71, 72, 73, 74, 75, 76, 77, 78, 79, 80, 81, 82, 83, 84, 85, 86, 87, 88, 12, 89, 90, 91, 92, 93, 94, 95, 96, 97, 98, 99, 100, 101, 102, 103, 104, 105, 106, 107, 108, 109, 110, 111, 112, 113, 114, 115, 116, 117, 118, 119, 120, 121, 122, 123, 124, 125, 126, 127, 128, 129, 130, 131, 132, 133, 134, 135, 136, 137, 138, 6, 8, 139, 140, 141, 142, 155, 156, 157, 158, 159, 160, 161, 162, 163, 164, 165, 166, 167, 168, 169, 170, 171, 172, 173, 174] (by decide +kernel) (by decide +kernel)
set_option maxRecDepth 20000 in
theorem gX6_holds_X2_pass : GoodIn wsX6_holds (wsV RX6 113 RX2 yX2_pass wsX2_pass) := goodIn_app (goodIn_of _ (by decide +kernel)) ggX6_holds_X2_pass
set_option maxRecDepth 20000 in
theorem ggX6_holds_X1_believersOf : GoodIn wsX6_holds wsX1_believersOf := goodIn_r _ [146, 57, 163, 164, 165, 166, 167, 168, 169, 170, 171, 172, 173, 174] (by decide +kernel) (by decide +kernel)
set_option maxRecDepth 20000 in
theorem gX6_holds_X1_believersOf : GoodIn wsX6_holds (wsV RX6 133 RX1 yX1_believersOf wsX1_believersOf) := goodIn_app (goodIn_of _ (by decide +kernel)) ggX6_holds_X1_believersOf
theorem dX6_holds_0 : decode cX6_holds 0 = .ok (.iload_n 1, 1) := by decide +kernel
theorem dX6_holds_1 : decode cX6_holds 1 = .ok (.invokestatic 84, 3) := by decide +kernel
theorem dX6_holds_4 : decode cX6_holds 4 = .ok (.ifCond .ne 5, 3) := by decide +kernel
theorem dX6_holds_7 : decode cX6_holds 7 = .ok (.iconst (-1), 1) := by decide +kernel
theorem dX6_holds_8 : decode cX6_holds 8 = .ok (.ireturn, 1) := by decide +kernel
theorem dX6_holds_9 : decode cX6_holds 9 = .ok (.aload_n 0, 1) := by decide +kernel
theorem dX6_holds_10 : decode cX6_holds 10 = .ok (.getfield 33, 3) := by decide +kernel
theorem dX6_holds_13 : decode cX6_holds 13 = .ok (.aload_n 0, 1) := by decide +kernel
theorem dX6_holds_14 : decode cX6_holds 14 = .ok (.getfield 26, 3) := by decide +kernel
theorem dX6_holds_17 : decode cX6_holds 17 = .ok (.aload_n 0, 1) := by decide +kernel
theorem dX6_holds_18 : decode cX6_holds 18 = .ok (.getfield 16, 3) := by decide +kernel
theorem dX6_holds_21 : decode cX6_holds 21 = .ok (.aload_n 0, 1) := by decide +kernel
theorem dX6_holds_22 : decode cX6_holds 22 = .ok (.getfield 12, 3) := by decide +kernel
theorem dX6_holds_25 : decode cX6_holds 25 = .ok (.invokevirtual 113, 3) := by decide +kernel
theorem dX6_holds_28 : decode cX6_holds 28 = .ok (.istore_n 2, 1) := by decide +kernel
theorem dX6_holds_29 : decode cX6_holds 29 = .ok (.iload_n 2, 1) := by decide +kernel
theorem dX6_holds_30 : decode cX6_holds 30 = .ok (.ifCond .ne 14, 3) := by decide +kernel
theorem dX6_holds_33 : decode cX6_holds 33 = .ok (.aload_n 0, 1) := by decide +kernel
theorem dX6_holds_34 : decode cX6_holds 34 = .ok (.getfield 16, 3) := by decide +kernel
theorem dX6_holds_37 : decode cX6_holds 37 = .ok (.iload_n 1, 1) := by decide +kernel
theorem dX6_holds_38 : decode cX6_holds 38 = .ok (.invokevirtual 133, 3) := by decide +kernel
theorem dX6_holds_41 : decode cX6_holds 41 = .ok (.goto 4, 3) := by decide +kernel
theorem dX6_holds_44 : decode cX6_holds 44 = .ok (.iload_n 2, 1) := by decide +kernel
theorem dX6_holds_45 : decode cX6_holds 45 = .ok (.ireturn, 1) := by decide +kernel
set_option maxRecDepth 20000 in
theorem ggX6_other_X6_within : GoodIn wsX6_other wsX6_within := goodIn_r _ [8] (by decide +kernel) (by decide +kernel)
set_option maxRecDepth 20000 in
theorem gX6_other_X6_within : GoodIn wsX6_other (va_wsS RX6 62 yX6_within wsX6_within) := goodIn_app (goodIn_of _ (by decide +kernel)) ggX6_other_X6_within
set_option maxRecDepth 20000 in
theorem ggX6_other_X2_pass : GoodIn wsX6_other wsX2_pass := goodIn_r _ [13, 14, 15, 16, 17, 18, 19, 20, 21, 22, 23, 24, 25, 26, 27, 28, 29, 30, 31, 32, 33, 34, 6, 7, 8, 35, 36, 37, 38, 39, 40, 41, 42, 43, 44, 45, 46, 47, 48, 49, 50, 51, 52, 53, 54, 55, 56, 57, 58, 59, 60, 61, 62, 63, 64, 65, 66, 67, 68, 69, 70, 71, 72, 73, 74, 75, 76, 77, 78, 79, 80, 81, 82, 83, 84, 85, 86, 12, 87, 88, 89, 90, 91, 92, 93, 94, 95, 96, 97, 98, 99, 100, 101, 102, 103, 104, 105, 106, 107, 108, 109, 110, 111, 112, 113, 114, 115, 116, 117, 118, 119, 120, 121, 122, 123, 124, 125, 126, 127, 128, 129, 130, 131, 132, 133, 134, 135, 136, 137, 138, 139, 140, 141, 142, 151, 152, 153, 154, 155, 156, 157, 158, 159, 160, 161, 162, 163, 164, 165, 166, 167, 168, 169, 170] (by decide +kernel) (by decide +kernel)
set_option maxRecDepth 20000 in
theorem gX6_other_X2_pass : GoodIn wsX6_other (wsV RX6 113 RX2 yX2_pass wsX2_pass) := goodIn_app (goodIn_of _ (by decide +kernel)) ggX6_other_X2_pass
theorem dX6_other_0 : decode cX6_other 0 = .ok (.iload_n 1, 1) := by decide +kernel
theorem dX6_other_1 : decode cX6_other 1 = .ok (.iconst 0, 1) := by decide +kernel
theorem dX6_other_2 : decode cX6_other 2 = .ok (.iconst 1, 1) := by decide +kernel
theorem dX6_other_3 : decode cX6_other 3 = .ok (.invokestatic 62, 3) := by decide +kernel
theorem dX6_other_6 : decode cX6_other 6 = .ok (.ifCond .ne 6, 3) := by decide +kernel
theorem dX6_other_9 : decode cX6_other 9 = .ok (.bipush (-2), 2) := by decide +kernel
theorem dX6_other_11 : decode cX6_other 11 = .ok (.ireturn, 1) := by decide +kernel
theorem dX6_other_12 : decode cX6_other 12 = .ok (.aload_n 0, 1) := by decide +kernel
theorem dX6_other_13 : decode cX6_other 13 = .ok (.getfield 33, 3) := by decide +kernel
theorem dX6_other_16 : decode cX6_other 16 = .ok (.aload_n 0, 1) := by decide +kernel
theorem dX6_other_17 : decode cX6_other 17 = .ok (.getfield 26, 3) := by decide +kernel
theorem dX6_other_20 : decode cX6_other 20 = .ok (.aload_n 0, 1) := by decide +kernel
theorem dX6_other_21 : decode cX6_other 21 = .ok (.getfield 16, 3) := by decide +kernel
theorem dX6_other_24 : decode cX6_other 24 = .ok (.aload_n 0, 1) := by decide +kernel
theorem dX6_other_25 : decode cX6_other 25 = .ok (.getfield 12, 3) := by decide +kernel
theorem dX6_other_28 : decode cX6_other 28 = .ok (.invokevirtual 113, 3) := by decide +kernel
theorem dX6_other_31 : decode cX6_other 31 = .ok (.istore_n 2, 1) := by decide +kernel
theorem dX6_other_32 : decode cX6_other 32 = .ok (.iload_n 2, 1) := by decide +kernel
theorem dX6_other_33 : decode cX6_other 33 = .ok (.ifCond .eq 5, 3) := by decide +kernel
theorem dX6_other_36 : decode cX6_other 36 = .ok (.iload_n 2, 1) := by decide +kernel
theorem dX6_other_37 : decode cX6_other 37 = .ok (.ireturn, 1) := by decide +kernel
theorem dX6_other_38 : decode cX6_other 38 = .ok (.iload_n 1, 1) := by decide +kernel
theorem dX6_other_39 : decode cX6_other 39 = .ok (.ifCond .ne 13, 3) := by decide +kernel
theorem dX6_other_42 : decode cX6_other 42 = .ok (.aload_n 0, 1) := by decide +kernel
theorem dX6_other_43 : decode cX6_other 43 = .ok (.getfield 33, 3) := by decide +kernel
theorem dX6_other_46 : decode cX6_other 46 = .ok (.getfield 136, 3) := by decide +kernel
theorem dX6_other_49 : decode cX6_other 49 = .ok (.goto 10, 3) := by decide +kernel
theorem dX6_other_52 : decode cX6_other 52 = .ok (.aload_n 0, 1) := by decide +kernel
theorem dX6_other_53 : decode cX6_other 53 = .ok (.getfield 33, 3) := by decide +kernel
theorem dX6_other_56 : decode cX6_other 56 = .ok (.getfield 139, 3) := by decide +kernel
theorem dX6_other_59 : decode cX6_other 59 = .ok (.ireturn, 1) := by decide +kernel
set_option maxRecDepth 20000 in
theorem ggX6_done_X2_pass : GoodIn wsX6_done wsX2_pass := goodIn_r _ [9, 10, 11, 12, 13, 14, 15, 16, 17, 18, 19, 20, 21, 22, 23, 24, 25, 26, 27, 28, 29, 30, 31, 32, 33, 34, 35, 36, 37, 38, 39, 40, 41, 42, 43, 44, 45, 46, 47, 48, 49, 50, 51, 52, 53, 54, 55, 56, 57, 58, 59, 60, 61, 62, 63, 64, 65, 66, 67, 68, 69, 70, 71, 72, 73, 74, 75, 76, 77, 78, 79, 80, 81, 82, 83, 84, 85, 8, 86, 87, 88, 89, 90, 91, 92, 93, 94, 95, 96, 97, 98, 99, 100, 101, 102, 103, 104, 105, 106, 107, 108, 109, 110, 111, 112, 113, 114, 115, 116, 117, 118, 119, 120, 121, 122, 123, 124, 125, 126, 127, 128, 129, 130, 131, 132, 133, 134, 135, 136, 137, 138, 139, 140, 141, 155, 156, 157, 158, 159, 160, 161, 162, 163, 164, 165, 166, 167, 168, 169, 170, 171, 172, 173, 174] (by decide +kernel) (by decide +kernel)
set_option maxRecDepth 20000 in
theorem gX6_done_X2_pass : GoodIn wsX6_done (wsV RX6 113 RX2 yX2_pass wsX2_pass) := goodIn_app (goodIn_of _ (by decide +kernel)) ggX6_done_X2_pass
set_option maxRecDepth 20000 in
theorem ggX6_done_X1_copyFrom : GoodIn wsX6_done wsX1_copyFrom := goodIn_r _ [46, 47, 48, 49, 50, 51, 52, 53, 54, 55, 56, 57, 58, 59, 60, 61, 62, 163, 164, 165, 166, 167, 168, 169, 170, 171, 172, 173, 174] (by decide +kernel) (by decide +kernel)
set_option maxRecDepth 20000 in
theorem gX6_done_X1_copyFrom : GoodIn wsX6_done (wsV RX6 142 RX1 yX1_copyFrom wsX1_copyFrom) := goodIn_app (goodIn_of _ (by decide +kernel)) ggX6_done_X1_copyFrom
set_option maxRecDepth 20000 in
theorem ggX6_done_X3_clear : GoodIn wsX6_done wsX3_clear := goodIn_r _ [146, 21, 161, 162] (by decide +kernel) (by decide +kernel)
set_option maxRecDepth 20000 in
theorem gX6_done_X3_clear : GoodIn wsX6_done (wsV RX6 107 RX3 yX3_clear wsX3_clear) := goodIn_app (goodIn_of _ (by decide +kernel)) ggX6_done_X3_clear
theorem dX6_done_0 : decode cX6_done 0 = .ok (.aload_n 0, 1) := by decide +kernel
theorem dX6_done_1 : decode cX6_done 1 = .ok (.getfield 33, 3) := by decide +kernel
theorem dX6_done_4 : decode cX6_done 4 = .ok (.aload_n 0, 1) := by decide +kernel
theorem dX6_done_5 : decode cX6_done 5 = .ok (.getfield 26, 3) := by decide +kernel
theorem dX6_done_8 : decode cX6_done 8 = .ok (.aload_n 0, 1) := by decide +kernel
theorem dX6_done_9 : decode cX6_done 9 = .ok (.getfield 16, 3) := by decide +kernel
theorem dX6_done_12 : decode cX6_done 12 = .ok (.aload_n 0, 1) := by decide +kernel
theorem dX6_done_13 : decode cX6_done 13 = .ok (.getfield 12, 3) := by decide +kernel
theorem dX6_done_16 : decode cX6_done 16 = .ok (.invokevirtual 113, 3) := by decide +kernel
theorem dX6_done_19 : decode cX6_done 19 = .ok (.istore_n 1, 1) := by decide +kernel
theorem dX6_done_20 : decode cX6_done 20 = .ok (.iload_n 1, 1) := by decide +kernel
theorem dX6_done_21 : decode cX6_done 21 = .ok (.ifCond .eq 5, 3) := by decide +kernel
theorem dX6_done_24 : decode cX6_done 24 = .ok (.iload_n 1, 1) := by decide +kernel
theorem dX6_done_25 : decode cX6_done 25 = .ok (.ireturn, 1) := by decide +kernel
theorem dX6_done_26 : decode cX6_done 26 = .ok (.aload_n 0, 1) := by decide +kernel
theorem dX6_done_27 : decode cX6_done 27 = .ok (.getfield 12, 3) := by decide +kernel
theorem dX6_done_30 : decode cX6_done 30 = .ok (.aload_n 0, 1) := by decide +kernel
theorem dX6_done_31 : decode cX6_done 31 = .ok (.getfield 16, 3) := by decide +kernel
theorem dX6_done_34 : decode cX6_done 34 = .ok (.invokevirtual 142, 3) := by decide +kernel
theorem dX6_done_37 : decode cX6_done 37 = .ok (.aload_n 0, 1) := by decide +kernel
theorem dX6_done_38 : decode cX6_done 38 = .ok (.getfield 26, 3) := by decide +kernel
theorem dX6_done_41 : decode cX6_done 41 = .ok (.invokevirtual 107, 3) := by decide +kernel
theorem dX6_done_44 : decode cX6_done 44 = .ok (.aload_n 0, 1) := by decide +kernel
theorem dX6_done_45 : decode cX6_done 45 = .ok (.getfield 33, 3) := by decide +kernel
theorem dX6_done_48 : decode cX6_done 48 = .ok (.getfield 146, 3) := by decide +kernel
theorem dX6_done_51 : decode cX6_done 51 = .ok (.ireturn, 1) := by decide +kernel
set_option maxRecDepth 20000 in
theorem ggX6_near_X6_isPlace : GoodIn wsX6_near wsX6_isPlace := goodIn_r _ [6] (by decide +kernel) (by decide +kernel)
set_option maxRecDepth 20000 in
theorem gX6_near_X6_isPlace : GoodIn wsX6_near (va_wsS RX6 58 yX6_isPlace wsX6_isPlace) := goodIn_app (goodIn_of _ (by decide +kernel)) ggX6_near_X6_isPlace
set_option maxRecDepth 20000 in
theorem ggX6_near_X6_within : GoodIn wsX6_near wsX6_within := goodIn_r _ [9] (by decide +kernel) (by decide +kernel)
set_option maxRecDepth 20000 in
theorem gX6_near_X6_within : GoodIn wsX6_near (va_wsS RX6 62 yX6_within wsX6_within) := goodIn_app (goodIn_of _ (by decide +kernel)) ggX6_near_X6_within
set_option maxRecDepth 20000 in
theorem ggX6_near_X5_measure : GoodIn wsX6_near wsX5_measure := goodIn_r _ [14, 15, 16, 17, 18, 19, 20, 21, 4, 5, 6, 22, 23, 24, 13, 25, 26, 27, 28, 29, 47, 48, 49, 50, 51, 52, 53, 54, 55, 56, 57, 58, 59, 60, 61] (by decide +kernel) (by decide +kernel)
set_option maxRecDepth 20000 in
theorem gX6_near_X5_measure : GoodIn wsX6_near (wsV RX6 149 RX5 yX5_measure wsX5_measure) := goodIn_app (goodIn_of _ (by decide +kernel)) ggX6_near_X5_measure
set_option maxRecDepth 20000 in
theorem ggX6_near_X5_howFar : GoodIn wsX6_near wsX5_howFar := goodIn_r _ [33, 26, 27, 28, 13, 29, 15, 4, 5, 6, 47, 48, 49] (by decide +kernel) (by decide +kernel)
set_option maxRecDepth 20000 in
theorem gX6_near_X5_howFar : GoodIn wsX6_near (wsV RX6 152 RX5 yX5_howFar wsX5_howFar) := goodIn_app (goodIn_of _ (by decide +kernel)) ggX6_near_X5_howFar
set_option maxRecDepth 20000 in
theorem ggX6_near_X5_nextPlace : GoodIn wsX6_near wsX5_nextPlace := goodIn_r _ [37, 38, 31, 32, 13, 33, 26, 27, 28, 29, 15, 4, 5, 6, 16, 17, 18, 19, 20, 21, 47, 48, 49, 50, 51, 52, 53, 54, 55, 56, 57, 58, 59, 60, 61] (by decide +kernel) (by decide +kernel)
set_option maxRecDepth 20000 in
theorem gX6_near_X5_nextPlace : GoodIn wsX6_near (wsV RX6 155 RX5 yX5_nextPlace wsX5_nextPlace) := goodIn_app (goodIn_of _ (by decide +kernel)) ggX6_near_X5_nextPlace
theorem dX6_near_0 : decode cX6_near 0 = .ok (.iload_n 1, 1) := by decide +kernel
theorem dX6_near_1 : decode cX6_near 1 = .ok (.invokestatic 58, 3) := by decide +kernel
theorem dX6_near_4 : decode cX6_near 4 = .ok (.ifCond .eq 10, 3) := by decide +kernel
theorem dX6_near_7 : decode cX6_near 7 = .ok (.iload_n 2, 1) := by decide +kernel
theorem dX6_near_8 : decode cX6_near 8 = .ok (.invokestatic 58, 3) := by decide +kernel
theorem dX6_near_11 : decode cX6_near 11 = .ok (.ifCond .ne 5, 3) := by decide +kernel
theorem dX6_near_14 : decode cX6_near 14 = .ok (.iconst (-1), 1) := by decide +kernel
theorem dX6_near_15 : decode cX6_near 15 = .ok (.ireturn, 1) := by decide +kernel
theorem dX6_near_16 : decode cX6_near 16 = .ok (.iload_n 3, 1) := by decide +kernel
theorem dX6_near_17 : decode cX6_near 17 = .ok (.iconst 0, 1) := by decide +kernel
theorem dX6_near_18 : decode cX6_near 18 = .ok (.iconst 1, 1) := by decide +kernel
theorem dX6_near_19 : decode cX6_near 19 = .ok (.invokestatic 62, 3) := by decide +kernel
theorem dX6_near_22 : decode cX6_near 22 = .ok (.ifCond .ne 6, 3) := by decide +kernel
theorem dX6_near_25 : decode cX6_near 25 = .ok (.bipush (-2), 2) := by decide +kernel
theorem dX6_near_27 : decode cX6_near 27 = .ok (.ireturn, 1) := by decide +kernel
theorem dX6_near_28 : decode cX6_near 28 = .ok (.aload_n 0, 1) := by decide +kernel
theorem dX6_near_29 : decode cX6_near 29 = .ok (.getfield 40, 3) := by decide +kernel
theorem dX6_near_32 : decode cX6_near 32 = .ok (.aload_n 0, 1) := by decide +kernel
theorem dX6_near_33 : decode cX6_near 33 = .ok (.getfield 12, 3) := by decide +kernel
theorem dX6_near_36 : decode cX6_near 36 = .ok (.invokevirtual 149, 3) := by decide +kernel
theorem dX6_near_39 : decode cX6_near 39 = .ok (.iload_n 3, 1) := by decide +kernel
theorem dX6_near_40 : decode cX6_near 40 = .ok (.ifCond .ne 15, 3) := by decide +kernel
theorem dX6_near_43 : decode cX6_near 43 = .ok (.aload_n 0, 1) := by decide +kernel
theorem dX6_near_44 : decode cX6_near 44 = .ok (.getfield 40, 3) := by decide +kernel
theorem dX6_near_47 : decode cX6_near 47 = .ok (.iload_n 1, 1) := by decide +kernel
theorem dX6_near_48 : decode cX6_near 48 = .ok (.iload_n 2, 1) := by decide +kernel
theorem dX6_near_49 : decode cX6_near 49 = .ok (.invokevirtual 152, 3) := by decide +kernel
theorem dX6_near_52 : decode cX6_near 52 = .ok (.goto 16, 3) := by decide +kernel
theorem dX6_near_55 : decode cX6_near 55 = .ok (.aload_n 0, 1) := by decide +kernel
theorem dX6_near_56 : decode cX6_near 56 = .ok (.getfield 40, 3) := by decide +kernel
theorem dX6_near_59 : decode cX6_near 59 = .ok (.aload_n 0, 1) := by decide +kernel
theorem dX6_near_60 : decode cX6_near 60 = .ok (.getfield 12, 3) := by decide +kernel
theorem dX6_near_63 : decode cX6_near 63 = .ok (.iload_n 1, 1) := by decide +kernel
theorem dX6_near_64 : decode cX6_near 64 = .ok (.iload_n 2, 1) := by decide +kernel
theorem dX6_near_65 : decode cX6_near 65 = .ok (.invokevirtual 155, 3) := by decide +kernel
theorem dX6_near_68 : decode cX6_near 68 = .ok (.ireturn, 1) := by decide +kernel
set_option maxRecDepth 20000 in
theorem ggX6_round_X6_within : GoodIn wsX6_round wsX6_within := goodIn_r _ [6] (by decide +kernel) (by decide +kernel)
set_option maxRecDepth 20000 in
theorem gX6_round_X6_within : GoodIn wsX6_round (va_wsS RX6 62 yX6_within wsX6_within) := goodIn_app (goodIn_of _ (by decide +kernel)) ggX6_round_X6_within
set_option maxRecDepth 20000 in
theorem ggX6_round_X5_bestRound : GoodIn wsX6_round wsX5_bestRound := goodIn_r _ [11, 12, 13, 14, 15, 16, 10, 17, 18, 19, 20, 21, 22, 23, 24, 25, 5, 26, 27, 28, 29, 30, 31, 32, 33, 34, 35, 36, 37, 38, 39, 40, 41, 42, 43, 44, 45, 46, 47, 48, 49, 50, 51, 52, 53, 54, 55, 56, 57, 58, 59, 60, 61, 62, 4, 6, 63, 64, 65, 66, 67, 68, 69, 70, 71, 72, 73, 74, 75, 85, 86, 87, 88, 89, 90, 91, 92, 93, 94, 95, 96, 97, 98, 99] (by decide +kernel) (by decide +kernel)
set_option maxRecDepth 20000 in
theorem gX6_round_X5_bestRound : GoodIn wsX6_round (wsV RX6 159 RX5 yX5_bestRound wsX5_bestRound) := goodIn_app (goodIn_of _ (by decide +kernel)) ggX6_round_X5_bestRound
set_option maxRecDepth 20000 in
theorem ggX6_round_J6_bitCount_0f7a4 : GoodIn wsX6_round wsJ6_bitCount_0f7a4 := goodIn_r _ [72, 73, 74, 75] (by decide +kernel) (by decide +kernel)
set_option maxRecDepth 20000 in
theorem gX6_round_J6_bitCount_0f7a4 : GoodIn wsX6_round (va_wsS RX6 163 yJ6_bitCount_0f7a4 wsJ6_bitCount_0f7a4) := goodIn_app (goodIn_of _ (by decide +kernel)) ggX6_round_J6_bitCount_0f7a4
theorem dX6_round_0 : decode cX6_round 0 = .ok (.iload_n 1, 1) := by decide +kernel
theorem dX6_round_1 : decode cX6_round 1 = .ok (.iconst 0, 1) := by decide +kernel
theorem dX6_round_2 : decode cX6_round 2 = .ok (.bipush 99, 2) := by decide +kernel
theorem dX6_round_4 : decode cX6_round 4 = .ok (.invokestatic 62, 3) := by decide +kernel
theorem dX6_round_7 : decode cX6_round 7 = .ok (.ifCond .eq 12, 3) := by decide +kernel
theorem dX6_round_10 : decode cX6_round 10 = .ok (.iload_n 2, 1) := by decide +kernel
theorem dX6_round_11 : decode cX6_round 11 = .ok (.iconst 0, 1) := by decide +kernel
theorem dX6_round_12 : decode cX6_round 12 = .ok (.iconst 1, 1) := by decide +kernel
theorem dX6_round_13 : decode cX6_round 13 = .ok (.invokestatic 62, 3) := by decide +kernel
theorem dX6_round_16 : decode cX6_round 16 = .ok (.ifCond .ne 6, 3) := by decide +kernel
theorem dX6_round_19 : decode cX6_round 19 = .ok (.bipush (-2), 2) := by decide +kernel
theorem dX6_round_21 : decode cX6_round 21 = .ok (.ireturn, 1) := by decide +kernel
theorem dX6_round_22 : decode cX6_round 22 = .ok (.aload_n 0, 1) := by decide +kernel
theorem dX6_round_23 : decode cX6_round 23 = .ok (.getfield 40, 3) := by decide +kernel
theorem dX6_round_26 : decode cX6_round 26 = .ok (.aload_n 0, 1) := by decide +kernel
theorem dX6_round_27 : decode cX6_round 27 = .ok (.getfield 12, 3) := by decide +kernel
theorem dX6_round_30 : decode cX6_round 30 = .ok (.iload_n 1, 1) := by decide +kernel
theorem dX6_round_31 : decode cX6_round 31 = .ok (.invokevirtual 159, 3) := by decide +kernel
theorem dX6_round_34 : decode cX6_round 34 = .ok (.istore_n 3, 1) := by decide +kernel
theorem dX6_round_35 : decode cX6_round 35 = .ok (.iload_n 2, 1) := by decide +kernel
theorem dX6_round_36 : decode cX6_round 36 = .ok (.ifCond .ne 10, 3) := by decide +kernel
theorem dX6_round_39 : decode cX6_round 39 = .ok (.iload_n 3, 1) := by decide +kernel
theorem dX6_round_40 : decode cX6_round 40 = .ok (.invokestatic 163, 3) := by decide +kernel
theorem dX6_round_43 : decode cX6_round 43 = .ok (.goto 4, 3) := by decide +kernel
theorem dX6_round_46 : decode cX6_round 46 = .ok (.iload_n 3, 1) := by decide +kernel
theorem dX6_round_47 : decode cX6_round 47 = .ok (.ireturn, 1) := by decide +kernel
set_option maxRecDepth 20000 in
theorem ggX6_keep_X6_isHouse : GoodIn wsX6_keep wsX6_isHouse := goodIn_r _ [6] (by decide +kernel) (by decide +kernel)
set_option maxRecDepth 20000 in
theorem gX6_keep_X6_isHouse : GoodIn wsX6_keep (va_wsS RX6 74 yX6_isHouse wsX6_isHouse) := goodIn_app (goodIn_of _ (by decide +kernel)) ggX6_keep_X6_isHouse
set_option maxRecDepth 20000 in
theorem ggX6_keep_X6_within : GoodIn wsX6_keep wsX6_within := goodIn_r _ [9] (by decide +kernel) (by decide +kernel)
set_option maxRecDepth 20000 in
theorem gX6_keep_X6_within : GoodIn wsX6_keep (va_wsS RX6 62 yX6_within wsX6_within) := goodIn_app (goodIn_of _ (by decide +kernel)) ggX6_keep_X6_within
set_option maxRecDepth 20000 in
theorem ggX6_keep_X5_fewestDamp : GoodIn wsX6_keep wsX5_fewestDamp := goodIn_r _ [14, 15, 16, 17, 18, 19, 20, 21, 5, 22, 23, 24, 25, 13, 26, 27, 28, 29, 30, 31, 32, 33, 34, 35, 36, 37, 38, 39, 40, 50, 51, 52, 53, 54, 55, 56, 57, 58, 59, 60, 61, 62, 63, 64] (by decide +kernel) (by decide +kernel)
set_option maxRecDepth 20000 in
theorem gX6_keep_X5_fewestDamp : GoodIn wsX6_keep (wsV RX6 168 RX5 yX5_fewestDamp wsX5_fewestDamp) := goodIn_app (goodIn_of _ (by decide +kernel)) ggX6_keep_X5_fewestDamp
set_option maxRecDepth 20000 in
theorem ggX6_keep_J6_bitCount_0f7a4 : GoodIn wsX6_keep wsJ6_bitCount_0f7a4 := goodIn_r _ [31, 32, 33, 34] (by decide +kernel) (by decide +kernel)
set_option maxRecDepth 20000 in
theorem gX6_keep_J6_bitCount_0f7a4 : GoodIn wsX6_keep (va_wsS RX6 163 yJ6_bitCount_0f7a4 wsJ6_bitCount_0f7a4) := goodIn_app (goodIn_of _ (by decide +kernel)) ggX6_keep_J6_bitCount_0f7a4
theorem dX6_keep_0 : decode cX6_keep 0 = .ok (.iload_n 1, 1) := by decide +kernel
theorem dX6_keep_1 : decode cX6_keep 1 = .ok (.invokestatic 74, 3) := by decide +kernel
theorem dX6_keep_4 : decode cX6_keep 4 = .ok (.ifCond .ne 5, 3) := by decide +kernel
theorem dX6_keep_7 : decode cX6_keep 7 = .ok (.iconst (-1), 1) := by decide +kernel
theorem dX6_keep_8 : decode cX6_keep 8 = .ok (.ireturn, 1) := by decide +kernel
theorem dX6_keep_9 : decode cX6_keep 9 = .ok (.iload_n 2, 1) := by decide +kernel
theorem dX6_keep_10 : decode cX6_keep 10 = .ok (.iconst 0, 1) := by decide +kernel
theorem dX6_keep_11 : decode cX6_keep 11 = .ok (.iconst 1, 1) := by decide +kernel
theorem dX6_keep_12 : decode cX6_keep 12 = .ok (.invokestatic 62, 3) := by decide +kernel
theorem dX6_keep_15 : decode cX6_keep 15 = .ok (.ifCond .ne 6, 3) := by decide +kernel
theorem dX6_keep_18 : decode cX6_keep 18 = .ok (.bipush (-2), 2) := by decide +kernel
theorem dX6_keep_20 : decode cX6_keep 20 = .ok (.ireturn, 1) := by decide +kernel
theorem dX6_keep_21 : decode cX6_keep 21 = .ok (.aload_n 0, 1) := by decide +kernel
theorem dX6_keep_22 : decode cX6_keep 22 = .ok (.getfield 40, 3) := by decide +kernel
theorem dX6_keep_25 : decode cX6_keep 25 = .ok (.aload_n 0, 1) := by decide +kernel
theorem dX6_keep_26 : decode cX6_keep 26 = .ok (.getfield 12, 3) := by decide +kernel
theorem dX6_keep_29 : decode cX6_keep 29 = .ok (.iload_n 1, 1) := by decide +kernel
theorem dX6_keep_30 : decode cX6_keep 30 = .ok (.invokevirtual 168, 3) := by decide +kernel
theorem dX6_keep_33 : decode cX6_keep 33 = .ok (.istore_n 3, 1) := by decide +kernel
theorem dX6_keep_34 : decode cX6_keep 34 = .ok (.iload_n 2, 1) := by decide +kernel
theorem dX6_keep_35 : decode cX6_keep 35 = .ok (.iconst 1, 1) := by decide +kernel
theorem dX6_keep_36 : decode cX6_keep 36 = .ok (.if_icmp .eq 9, 3) := by decide +kernel
theorem dX6_keep_39 : decode cX6_keep 39 = .ok (.iload_n 3, 1) := by decide +kernel
theorem dX6_keep_40 : decode cX6_keep 40 = .ok (.bipush (-6), 2) := by decide +kernel
theorem dX6_keep_42 : decode cX6_keep 42 = .ok (.if_icmp .ne 7, 3) := by decide +kernel
theorem dX6_keep_45 : decode cX6_keep 45 = .ok (.iload_n 3, 1) := by decide +kernel
theorem dX6_keep_46 : decode cX6_keep 46 = .ok (.goto 7, 3) := by decide +kernel
theorem dX6_keep_49 : decode cX6_keep 49 = .ok (.iload_n 3, 1) := by decide +kernel
theorem dX6_keep_50 : decode cX6_keep 50 = .ok (.invokestatic 163, 3) := by decide +kernel
theorem dX6_keep_53 : decode cX6_keep 53 = .ok (.ireturn, 1) := by decide +kernel
set_option maxRecDepth 20000 in
theorem ggX6_faded_X6_isTale : GoodIn wsX6_faded wsX6_isTale := goodIn_r _ [5] (by decide +kernel) (by decide +kernel)
set_option maxRecDepth 20000 in
theorem gX6_faded_X6_isTale : GoodIn wsX6_faded (va_wsS RX6 84 yX6_isTale wsX6_isTale) := goodIn_app (goodIn_of _ (by decide +kernel)) ggX6_faded_X6_isTale
set_option maxRecDepth 20000 in
theorem ggX6_faded_X6_within : GoodIn wsX6_faded wsX6_within := goodIn_r _ [8] (by decide +kernel) (by decide +kernel)
set_option maxRecDepth 20000 in
theorem gX6_faded_X6_within : GoodIn wsX6_faded (va_wsS RX6 62 yX6_within wsX6_within) := goodIn_app (goodIn_of _ (by decide +kernel)) ggX6_faded_X6_within
set_option maxRecDepth 20000 in
theorem ggX6_faded_X1_behindStirs : GoodIn wsX6_faded wsX1_behindStirs := goodIn_r _ [13, 14, 15, 16, 12, 17, 18, 3, 4, 5, 39, 40, 41, 42, 43, 44, 45, 46, 47, 48, 49, 50] (by decide +kernel) (by decide +kernel)
set_option maxRecDepth 20000 in
theorem gX6_faded_X1_behindStirs : GoodIn wsX6_faded (wsV RX6 171 RX1 yX1_behindStirs wsX1_behindStirs) := goodIn_app (goodIn_of _ (by decide +kernel)) ggX6_faded_X1_behindStirs
set_option maxRecDepth 20000 in
theorem ggX6_faded_X1_stirsToRing : GoodIn wsX6_faded wsX1_stirsToRing := goodIn_r _ [22, 3, 4, 5, 23, 24, 14, 15, 16, 12, 17, 18, 39, 40, 41, 42, 43, 44, 45, 46, 47, 48, 49, 50] (by decide +kernel) (by decide +kernel)
set_option maxRecDepth 20000 in
theorem gX6_faded_X1_stirsToRing : GoodIn wsX6_faded (wsV RX6 174 RX1 yX1_stirsToRing wsX1_stirsToRing) := goodIn_app (goodIn_of _ (by decide +kernel)) ggX6_faded_X1_stirsToRing
set_option maxRecDepth 20000 in
theorem ggX6_faded_X1_stirsOfRing : GoodIn wsX6_faded wsX1_stirsOfRing := goodIn_r _ [28, 29, 20, 21, 12, 22, 3, 4, 5, 23, 24, 14, 15, 16, 17, 18, 30, 10, 11, 13, 39, 40, 41, 42, 43, 44, 45, 46, 47, 48, 49, 50] (by decide +kernel) (by decide +kernel)
set_option maxRecDepth 20000 in
theorem gX6_faded_X1_stirsOfRing : GoodIn wsX6_faded (wsV RX6 177 RX1 yX1_stirsOfRing wsX1_stirsOfRing) := goodIn_app (goodIn_of _ (by decide +kernel)) ggX6_faded_X1_stirsOfRing
theorem dX6_faded_0 : decode cX6_faded 0 = .ok (.iload_n 1, 1) := by decide +kernel
theorem dX6_faded_1 : decode cX6_faded 1 = .ok (.invokestatic 84, 3) := by decide +kernel
theorem dX6_faded_4 : decode cX6_faded 4 = .ok (.ifCond .ne 5, 3) := by decide +kernel
theorem dX6_faded_7 : decode cX6_faded 7 = .ok (.iconst (-1), 1) := by decide +kernel
theorem dX6_faded_8 : decode cX6_faded 8 = .ok (.ireturn, 1) := by decide +kernel
theorem dX6_faded_9 : decode cX6_faded 9 = .ok (.iload_n 2, 1) := by decide +kernel
theorem dX6_faded_10 : decode cX6_faded 10 = .ok (.bipush (-2), 2) := by decide +kernel
theorem dX6_faded_12 : decode cX6_faded 12 = .ok (.bipush 99, 2) := by decide +kernel
theorem dX6_faded_14 : decode cX6_faded 14 = .ok (.invokestatic 62, 3) := by decide +kernel
theorem dX6_faded_17 : decode cX6_faded 17 = .ok (.ifCond .ne 6, 3) := by decide +kernel
theorem dX6_faded_20 : decode cX6_faded 20 = .ok (.bipush (-2), 2) := by decide +kernel
theorem dX6_faded_22 : decode cX6_faded 22 = .ok (.ireturn, 1) := by decide +kernel
theorem dX6_faded_23 : decode cX6_faded 23 = .ok (.iload_n 2, 1) := by decide +kernel
theorem dX6_faded_24 : decode cX6_faded 24 = .ok (.ifCond .lt 13, 3) := by decide +kernel
theorem dX6_faded_27 : decode cX6_faded 27 = .ok (.aload_n 0, 1) := by decide +kernel
theorem dX6_faded_28 : decode cX6_faded 28 = .ok (.getfield 12, 3) := by decide +kernel
theorem dX6_faded_31 : decode cX6_faded 31 = .ok (.iload_n 1, 1) := by decide +kernel
theorem dX6_faded_32 : decode cX6_faded 32 = .ok (.iload_n 2, 1) := by decide +kernel
theorem dX6_faded_33 : decode cX6_faded 33 = .ok (.invokevirtual 171, 3) := by decide +kernel
theorem dX6_faded_36 : decode cX6_faded 36 = .ok (.ireturn, 1) := by decide +kernel
theorem dX6_faded_37 : decode cX6_faded 37 = .ok (.iload_n 2, 1) := by decide +kernel
theorem dX6_faded_38 : decode cX6_faded 38 = .ok (.iconst (-1), 1) := by decide +kernel
theorem dX6_faded_39 : decode cX6_faded 39 = .ok (.if_icmp .ne 14, 3) := by decide +kernel
theorem dX6_faded_42 : decode cX6_faded 42 = .ok (.aload_n 0, 1) := by decide +kernel
theorem dX6_faded_43 : decode cX6_faded 43 = .ok (.getfield 12, 3) := by decide +kernel
theorem dX6_faded_46 : decode cX6_faded 46 = .ok (.iload_n 1, 1) := by decide +kernel
theorem dX6_faded_47 : decode cX6_faded 47 = .ok (.invokevirtual 174, 3) := by decide +kernel
theorem dX6_faded_50 : decode cX6_faded 50 = .ok (.goto 11, 3) := by decide +kernel
theorem dX6_faded_53 : decode cX6_faded 53 = .ok (.aload_n 0, 1) := by decide +kernel
theorem dX6_faded_54 : decode cX6_faded 54 = .ok (.getfield 12, 3) := by decide +kernel
theorem dX6_faded_57 : decode cX6_faded 57 = .ok (.iload_n 1, 1) := by decide +kernel
theorem dX6_faded_58 : decode cX6_faded 58 = .ok (.invokevirtual 177, 3) := by decide +kernel
theorem dX6_faded_61 : decode cX6_faded 61 = .ok (.ireturn, 1) := by decide +kernel
set_option maxRecDepth 20000 in
theorem ggX6_seen_X6_isTale : GoodIn wsX6_seen wsX6_isTale := goodIn_r _ [5] (by decide +kernel) (by decide +kernel)
set_option maxRecDepth 20000 in
theorem gX6_seen_X6_isTale : GoodIn wsX6_seen (va_wsS RX6 84 yX6_isTale wsX6_isTale) := goodIn_app (goodIn_of _ (by decide +kernel)) ggX6_seen_X6_isTale
set_option maxRecDepth 20000 in
theorem ggX6_seen_X6_within : GoodIn wsX6_seen wsX6_within := goodIn_r _ [8] (by decide +kernel) (by decide +kernel)
set_option maxRecDepth 20000 in
theorem gX6_seen_X6_within : GoodIn wsX6_seen (va_wsS RX6 62 yX6_within wsX6_within) := goodIn_app (goodIn_of _ (by decide +kernel)) ggX6_seen_X6_within
set_option maxRecDepth 20000 in
theorem ggX6_seen_X1_addSight : GoodIn wsX6_seen wsX1_addSight := goodIn_r _ [13, 14, 15, 16, 7, 4, 8, 29, 30, 31, 32, 33, 34, 35, 36, 37, 38, 39, 40] (by decide +kernel) (by decide +kernel)
set_option maxRecDepth 20000 in
theorem gX6_seen_X1_addSight : GoodIn wsX6_seen (wsV RX6 180 RX1 yX1_addSight wsX1_addSight) := goodIn_app (goodIn_of _ (by decide +kernel)) ggX6_seen_X1_addSight
set_option maxRecDepth 20000 in
theorem ggX6_seen_X1_sightCount : GoodIn wsX6_seen wsX1_sightCount := goodIn_r _ [20, 14, 29, 30, 31, 32, 33, 34, 35, 36, 37, 38, 39, 40] (by decide +kernel) (by decide +kernel)
set_option maxRecDepth 20000 in
theorem gX6_seen_X1_sightCount : GoodIn wsX6_seen (wsV RX6 184 RX1 yX1_sightCount wsX1_sightCount) := goodIn_app (goodIn_of _ (by decide +kernel)) ggX6_seen_X1_sightCount
theorem dX6_seen_0 : decode cX6_seen 0 = .ok (.iload_n 2, 1) := by decide +kernel
theorem dX6_seen_1 : decode cX6_seen 1 = .ok (.invokestatic 84, 3) := by decide +kernel
theorem dX6_seen_4 : decode cX6_seen 4 = .ok (.ifCond .ne 5, 3) := by decide +kernel
theorem dX6_seen_7 : decode cX6_seen 7 = .ok (.iconst (-1), 1) := by decide +kernel
theorem dX6_seen_8 : decode cX6_seen 8 = .ok (.ireturn, 1) := by decide +kernel
theorem dX6_seen_9 : decode cX6_seen 9 = .ok (.iload_n 1, 1) := by decide +kernel
theorem dX6_seen_10 : decode cX6_seen 10 = .ok (.iconst 0, 1) := by decide +kernel
theorem dX6_seen_11 : decode cX6_seen 11 = .ok (.bipush 40, 2) := by decide +kernel
theorem dX6_seen_13 : decode cX6_seen 13 = .ok (.invokestatic 62, 3) := by decide +kernel
theorem dX6_seen_16 : decode cX6_seen 16 = .ok (.ifCond .ne 6, 3) := by decide +kernel
theorem dX6_seen_19 : decode cX6_seen 19 = .ok (.bipush (-2), 2) := by decide +kernel
theorem dX6_seen_21 : decode cX6_seen 21 = .ok (.ireturn, 1) := by decide +kernel
theorem dX6_seen_22 : decode cX6_seen 22 = .ok (.aload_n 0, 1) := by decide +kernel
theorem dX6_seen_23 : decode cX6_seen 23 = .ok (.getfield 12, 3) := by decide +kernel
theorem dX6_seen_26 : decode cX6_seen 26 = .ok (.iload_n 1, 1) := by decide +kernel
theorem dX6_seen_27 : decode cX6_seen 27 = .ok (.iload_n 2, 1) := by decide +kernel
theorem dX6_seen_28 : decode cX6_seen 28 = .ok (.invokevirtual 180, 3) := by decide +kernel
theorem dX6_seen_31 : decode cX6_seen 31 = .ok (.ifCond .eq 13, 3) := by decide +kernel
theorem dX6_seen_34 : decode cX6_seen 34 = .ok (.aload_n 0, 1) := by decide +kernel
theorem dX6_seen_35 : decode cX6_seen 35 = .ok (.getfield 12, 3) := by decide +kernel
theorem dX6_seen_38 : decode cX6_seen 38 = .ok (.invokevirtual 184, 3) := by decide +kernel
theorem dX6_seen_41 : decode cX6_seen 41 = .ok (.goto 5, 3) := by decide +kernel
theorem dX6_seen_44 : decode cX6_seen 44 = .ok (.bipush (-4), 2) := by decide +kernel
theorem dX6_seen_46 : decode cX6_seen 46 = .ok (.ireturn, 1) := by decide +kernel
set_option maxRecDepth 20000 in
theorem ggX6_forget_X1_sightCount : GoodIn wsX6_forget wsX1_sightCount := goodIn_r _ [6, 7, 20, 21, 22, 23, 24, 25, 26, 27, 28, 29, 30, 31] (by decide +kernel) (by decide +kernel)
set_option maxRecDepth 20000 in
theorem gX6_forget_X1_sightCount : GoodIn wsX6_forget (wsV RX6 184 RX1 yX1_sightCount wsX1_sightCount) := goodIn_app (goodIn_of _ (by decide +kernel)) ggX6_forget_X1_sightCount
set_option maxRecDepth 20000 in
theorem ggX6_forget_X1_dropSights : GoodIn wsX6_forget wsX1_dropSights := goodIn_r _ [11, 7, 20, 21, 22, 23, 24, 25, 26, 27, 28, 29, 30, 31] (by decide +kernel) (by decide +kernel)
set_option maxRecDepth 20000 in
theorem gX6_forget_X1_dropSights : GoodIn wsX6_forget (wsV RX6 187 RX1 yX1_dropSights wsX1_dropSights) := goodIn_app (goodIn_of _ (by decide +kernel)) ggX6_forget_X1_dropSights
theorem dX6_forget_0 : decode cX6_forget 0 = .ok (.aload_n 0, 1) := by decide +kernel
theorem dX6_forget_1 : decode cX6_forget 1 = .ok (.getfield 12, 3) := by decide +kernel
theorem dX6_forget_4 : decode cX6_forget 4 = .ok (.invokevirtual 184, 3) := by decide +kernel
theorem dX6_forget_7 : decode cX6_forget 7 = .ok (.istore_n 1, 1) := by decide +kernel
theorem dX6_forget_8 : decode cX6_forget 8 = .ok (.aload_n 0, 1) := by decide +kernel
theorem dX6_forget_9 : decode cX6_forget 9 = .ok (.getfield 12, 3) := by decide +kernel
theorem dX6_forget_12 : decode cX6_forget 12 = .ok (.invokevirtual 187, 3) := by decide +kernel
theorem dX6_forget_15 : decode cX6_forget 15 = .ok (.iload_n 1, 1) := by decide +kernel
theorem dX6_forget_16 : decode cX6_forget 16 = .ok (.ireturn, 1) := by decide +kernel
set_option maxRecDepth 20000 in
theorem ggX6_fits_X4_gather : GoodIn wsX6_fits wsX4_gather := goodIn_r _ [7, 8, 9, 10, 11, 12, 6, 13, 14, 15, 16, 17, 18, 19, 20, 21, 22, 23, 24, 25, 26, 27, 28, 29, 30, 31, 32, 33, 34, 35, 36, 37, 38, 39, 40, 41, 42, 43, 44, 45, 46, 47, 48, 65, 66, 67, 68, 69, 70, 71, 72, 73, 74, 75, 76, 77, 78, 79, 80] (by decide +kernel) (by decide +kernel)
set_option maxRecDepth 20000 in
theorem gX6_fits_X4_gather : GoodIn wsX6_fits (wsV RX6 190 RX4 yX4_gather wsX4_gather) := goodIn_app (goodIn_of _ (by decide +kernel)) ggX6_fits_X4_gather
set_option maxRecDepth 20000 in
theorem ggX6_fits_X4_size : GoodIn wsX6_fits wsX4_size := goodIn_r _ [52, 8, 65, 66, 67, 68] (by decide +kernel) (by decide +kernel)
set_option maxRecDepth 20000 in
theorem gX6_fits_X4_size : GoodIn wsX6_fits (wsV RX6 193 RX4 yX4_size wsX4_size) := goodIn_app (goodIn_of _ (by decide +kernel)) ggX6_fits_X4_size
set_option maxRecDepth 20000 in
theorem ggX6_fits_X4_pick : GoodIn wsX6_fits wsX4_pick := goodIn_r _ [56, 8, 9, 38, 22, 39, 65, 66, 67, 68] (by decide +kernel) (by decide +kernel)
set_option maxRecDepth 20000 in
theorem gX6_fits_X4_pick : GoodIn wsX6_fits (wsV RX6 194 RX4 yX4_pick wsX4_pick) := goodIn_app (goodIn_of _ (by decide +kernel)) ggX6_fits_X4_pick
theorem dX6_fits_0 : decode cX6_fits 0 = .ok (.aload_n 0, 1) := by decide +kernel
theorem dX6_fits_1 : decode cX6_fits 1 = .ok (.getfield 47, 3) := by decide +kernel
theorem dX6_fits_4 : decode cX6_fits 4 = .ok (.aload_n 0, 1) := by decide +kernel
theorem dX6_fits_5 : decode cX6_fits 5 = .ok (.getfield 12, 3) := by decide +kernel
theorem dX6_fits_8 : decode cX6_fits 8 = .ok (.invokevirtual 190, 3) := by decide +kernel
theorem dX6_fits_11 : decode cX6_fits 11 = .ok (.iload_n 1, 1) := by decide +kernel
theorem dX6_fits_12 : decode cX6_fits 12 = .ok (.iconst (-1), 1) := by decide +kernel
theorem dX6_fits_13 : decode cX6_fits 13 = .ok (.if_icmp .ne 13, 3) := by decide +kernel
theorem dX6_fits_16 : decode cX6_fits 16 = .ok (.aload_n 0, 1) := by decide +kernel
theorem dX6_fits_17 : decode cX6_fits 17 = .ok (.getfield 47, 3) := by decide +kernel
theorem dX6_fits_20 : decode cX6_fits 20 = .ok (.invokevirtual 193, 3) := by decide +kernel
theorem dX6_fits_23 : decode cX6_fits 23 = .ok (.goto 11, 3) := by decide +kernel
theorem dX6_fits_26 : decode cX6_fits 26 = .ok (.aload_n 0, 1) := by decide +kernel
theorem dX6_fits_27 : decode cX6_fits 27 = .ok (.getfield 47, 3) := by decide +kernel
theorem dX6_fits_30 : decode cX6_fits 30 = .ok (.iload_n 1, 1) := by decide +kernel
theorem dX6_fits_31 : decode cX6_fits 31 = .ok (.invokevirtual 194, 3) := by decide +kernel
theorem dX6_fits_34 : decode cX6_fits 34 = .ok (.ireturn, 1) := by decide +kernel
set_option maxRecDepth 20000 in
theorem ggX6_ask_X6_within : GoodIn wsX6_ask wsX6_within := goodIn_r _ [6] (by decide +kernel) (by decide +kernel)
set_option maxRecDepth 20000 in
theorem gX6_ask_X6_within : GoodIn wsX6_ask (va_wsS RX6 62 yX6_within wsX6_within) := goodIn_app (goodIn_of _ (by decide +kernel)) ggX6_ask_X6_within
set_option maxRecDepth 20000 in
theorem ggX6_ask_X4_gather : GoodIn wsX6_ask wsX4_gather := goodIn_r _ [11, 12, 13, 14, 15, 16, 10, 17, 18, 19, 20, 21, 22, 23, 24, 25, 5, 26, 27, 28, 29, 30, 31, 32, 33, 34, 35, 36, 37, 38, 39, 40, 4, 6, 41, 42, 43, 44, 45, 46, 47, 48, 49, 80, 81, 82, 83, 84, 85, 86, 87, 88, 89, 90, 91, 92, 93, 94, 95] (by decide +kernel) (by decide +kernel)
set_option maxRecDepth 20000 in
theorem gX6_ask_X4_gather : GoodIn wsX6_ask (wsV RX6 190 RX4 yX4_gather wsX4_gather) := goodIn_app (goodIn_of _ (by decide +kernel)) ggX6_ask_X4_gather
set_option maxRecDepth 20000 in
theorem ggX6_ask_X4_bedToAsk : GoodIn wsX6_ask wsX4_bedToAsk := goodIn_r _ [53, 12, 54, 55, 56, 10, 57, 58, 59, 60, 61, 62, 63, 64, 65, 66, 67, 68, 69, 70, 13, 4, 5, 6, 41, 42, 43, 44, 18, 25, 26, 80, 81, 82, 83] (by decide +kernel) (by decide +kernel)
set_option maxRecDepth 20000 in
theorem gX6_ask_X4_bedToAsk : GoodIn wsX6_ask (wsV RX6 197 RX4 yX4_bedToAsk wsX4_bedToAsk) := goodIn_app (goodIn_of _ (by decide +kernel)) ggX6_ask_X4_bedToAsk
set_option maxRecDepth 20000 in
theorem ggX6_ask_X4_mostLeft : GoodIn wsX6_ask wsX4_mostLeft := goodIn_r _ [57, 58, 12, 59, 60, 61, 62, 63, 64, 65, 66, 67, 68, 69, 10, 70, 13, 4, 5, 6, 41, 42, 43, 44, 18, 25, 26, 80, 81, 82, 83] (by decide +kernel) (by decide +kernel)
set_option maxRecDepth 20000 in
theorem gX6_ask_X4_mostLeft : GoodIn wsX6_ask (wsV RX6 200 RX4 yX4_mostLeft wsX4_mostLeft) := goodIn_app (goodIn_of _ (by decide +kernel)) ggX6_ask_X4_mostLeft
theorem dX6_ask_0 : decode cX6_ask 0 = .ok (.iload_n 1, 1) := by decide +kernel
theorem dX6_ask_1 : decode cX6_ask 1 = .ok (.iconst 0, 1) := by decide +kernel
theorem dX6_ask_2 : decode cX6_ask 2 = .ok (.iconst 1, 1) := by decide +kernel
end
section
theorem dX6_ask_3 : decode cX6_ask 3 = .ok (.invokestatic 62, 3) := by decide +kernel
theorem dX6_ask_6 : decode cX6_ask 6 = .ok (.ifCond .ne 6, 3) := by decide +kernel
theorem dX6_ask_9 : decode cX6_ask 9 = .ok (.bipush (-2), 2) := by decide +kernel
theorem dX6_ask_11 : decode cX6_ask 11 = .ok (.ireturn, 1) := by decide +kernel
theorem dX6_ask_12 : decode cX6_ask 12 = .ok (.aload_n 0, 1) := by decide +kernel
theorem dX6_ask_13 : decode cX6_ask 13 = .ok (.getfield 47, 3) := by decide +kernel
theorem dX6_ask_16 : decode cX6_ask 16 = .ok (.aload_n 0, 1) := by decide +kernel
theorem dX6_ask_17 : decode cX6_ask 17 = .ok (.getfield 12, 3) := by decide +kernel
theorem dX6_ask_20 : decode cX6_ask 20 = .ok (.invokevirtual 190, 3) := by decide +kernel
theorem dX6_ask_23 : decode cX6_ask 23 = .ok (.aload_n 0, 1) := by decide +kernel
theorem dX6_ask_24 : decode cX6_ask 24 = .ok (.getfield 47, 3) := by decide +kernel
theorem dX6_ask_27 : decode cX6_ask 27 = .ok (.invokevirtual 197, 3) := by decide +kernel
theorem dX6_ask_30 : decode cX6_ask 30 = .ok (.istore_n 2, 1) := by decide +kernel
theorem dX6_ask_31 : decode cX6_ask 31 = .ok (.iload_n 1, 1) := by decide +kernel
theorem dX6_ask_32 : decode cX6_ask 32 = .ok (.ifCond .eq 9, 3) := by decide +kernel
theorem dX6_ask_35 : decode cX6_ask 35 = .ok (.iload_n 2, 1) := by decide +kernel
theorem dX6_ask_36 : decode cX6_ask 36 = .ok (.bipush (-6), 2) := by decide +kernel
theorem dX6_ask_38 : decode cX6_ask 38 = .ok (.if_icmp .ne 7, 3) := by decide +kernel
theorem dX6_ask_41 : decode cX6_ask 41 = .ok (.iload_n 2, 1) := by decide +kernel
theorem dX6_ask_42 : decode cX6_ask 42 = .ok (.goto 11, 3) := by decide +kernel
theorem dX6_ask_45 : decode cX6_ask 45 = .ok (.aload_n 0, 1) := by decide +kernel
theorem dX6_ask_46 : decode cX6_ask 46 = .ok (.getfield 47, 3) := by decide +kernel
theorem dX6_ask_49 : decode cX6_ask 49 = .ok (.iload_n 2, 1) := by decide +kernel
theorem dX6_ask_50 : decode cX6_ask 50 = .ok (.invokevirtual 200, 3) := by decide +kernel
theorem dX6_ask_53 : decode cX6_ask 53 = .ok (.ireturn, 1) := by decide +kernel
set_option maxRecDepth 20000 in
theorem ggX6_embers_X6_within : GoodIn wsX6_embers wsX6_within := goodIn_r _ [5] (by decide +kernel) (by decide +kernel)
set_option maxRecDepth 20000 in
theorem gX6_embers_X6_within : GoodIn wsX6_embers (va_wsS RX6 62 yX6_within wsX6_within) := goodIn_app (goodIn_of _ (by decide +kernel)) ggX6_embers_X6_within
set_option maxRecDepth 20000 in
theorem ggX6_embers_X0_firstTake : GoodIn wsX6_embers wsX0_firstTake := goodIn_r _ [10, 11, 3, 4, 5, 12, 13, 14, 9, 15, 24, 25, 26] (by decide +kernel) (by decide +kernel)
set_option maxRecDepth 20000 in
theorem gX6_embers_X0_firstTake : GoodIn wsX6_embers (wsV RX6 217 RX0 yX0_firstTake wsX0_firstTake) := goodIn_app (goodIn_of _ (by decide +kernel)) ggX6_embers_X0_firstTake
theorem dX6_embers_0 : decode cX6_embers 0 = .ok (.iload_n 1, 1) := by decide +kernel
theorem dX6_embers_1 : decode cX6_embers 1 = .ok (.iconst 1, 1) := by decide +kernel
theorem dX6_embers_2 : decode cX6_embers 2 = .ok (.bipush 60, 2) := by decide +kernel
theorem dX6_embers_4 : decode cX6_embers 4 = .ok (.invokestatic 62, 3) := by decide +kernel
theorem dX6_embers_7 : decode cX6_embers 7 = .ok (.ifCond .eq 12, 3) := by decide +kernel
theorem dX6_embers_10 : decode cX6_embers 10 = .ok (.iload_n 2, 1) := by decide +kernel
theorem dX6_embers_11 : decode cX6_embers 11 = .ok (.iconst 0, 1) := by decide +kernel
theorem dX6_embers_12 : decode cX6_embers 12 = .ok (.iconst 1, 1) := by decide +kernel
theorem dX6_embers_13 : decode cX6_embers 13 = .ok (.invokestatic 62, 3) := by decide +kernel
theorem dX6_embers_16 : decode cX6_embers 16 = .ok (.ifCond .ne 6, 3) := by decide +kernel
theorem dX6_embers_19 : decode cX6_embers 19 = .ok (.bipush (-2), 2) := by decide +kernel
theorem dX6_embers_21 : decode cX6_embers 21 = .ok (.ireturn, 1) := by decide +kernel
theorem dX6_embers_22 : decode cX6_embers 22 = .ok (.aload_n 0, 1) := by decide +kernel
theorem dX6_embers_23 : decode cX6_embers 23 = .ok (.getfield 54, 3) := by decide +kernel
theorem dX6_embers_26 : decode cX6_embers 26 = .ok (.iload_n 1, 1) := by decide +kernel
theorem dX6_embers_27 : decode cX6_embers 27 = .ok (.invokevirtual 217, 3) := by decide +kernel
theorem dX6_embers_30 : decode cX6_embers 30 = .ok (.istore_n 3, 1) := by decide +kernel
theorem dX6_embers_31 : decode cX6_embers 31 = .ok (.iload_n 2, 1) := by decide +kernel
theorem dX6_embers_32 : decode cX6_embers 32 = .ok (.iconst 1, 1) := by decide +kernel
theorem dX6_embers_33 : decode cX6_embers 33 = .ok (.if_icmp .ne 5, 3) := by decide +kernel
theorem dX6_embers_36 : decode cX6_embers 36 = .ok (.iload_n 3, 1) := by decide +kernel
theorem dX6_embers_37 : decode cX6_embers 37 = .ok (.ireturn, 1) := by decide +kernel
theorem dX6_embers_38 : decode cX6_embers 38 = .ok (.iload_n 3, 1) := by decide +kernel
theorem dX6_embers_39 : decode cX6_embers 39 = .ok (.bipush (-6), 2) := by decide +kernel
theorem dX6_embers_41 : decode cX6_embers 41 = .ok (.if_icmp .ne 7, 3) := by decide +kernel
theorem dX6_embers_44 : decode cX6_embers 44 = .ok (.iconst 0, 1) := by decide +kernel
theorem dX6_embers_45 : decode cX6_embers 45 = .ok (.goto 4, 3) := by decide +kernel
theorem dX6_embers_48 : decode cX6_embers 48 = .ok (.iconst 1, 1) := by decide +kernel
theorem dX6_embers_49 : decode cX6_embers 49 = .ok (.ireturn, 1) := by decide +kernel
set_option maxRecDepth 20000 in
theorem ggX6_told_X3_size : GoodIn wsX6_told wsX3_size := goodIn_r _ [7, 8, 71, 72] (by decide +kernel) (by decide +kernel)
set_option maxRecDepth 20000 in
theorem gX6_told_X3_size : GoodIn wsX6_told (wsV RX6 103 RX3 yX3_size wsX3_size) := goodIn_app (goodIn_of _ (by decide +kernel)) ggX6_told_X3_size
set_option maxRecDepth 20000 in
theorem ggX6_told_X6_within : GoodIn wsX6_told wsX6_within := goodIn_r _ [12] (by decide +kernel) (by decide +kernel)
set_option maxRecDepth 20000 in
theorem gX6_told_X6_within : GoodIn wsX6_told (va_wsS RX6 62 yX6_within wsX6_within) := goodIn_app (goodIn_of _ (by decide +kernel)) ggX6_told_X6_within
set_option maxRecDepth 20000 in
theorem ggX6_told_X1_panFact : GoodIn wsX6_told wsX1_panFact := goodIn_r _ [17, 18, 19, 20, 21, 73, 74, 75, 76, 77, 78, 79, 80, 81, 82, 83, 84] (by decide +kernel) (by decide +kernel)
set_option maxRecDepth 20000 in
theorem gX6_told_X1_panFact : GoodIn wsX6_told (wsV RX6 130 RX1 yX1_panFact wsX1_panFact) := goodIn_app (goodIn_of _ (by decide +kernel)) ggX6_told_X1_panFact
set_option maxRecDepth 20000 in
theorem ggX6_told_X1_sightCount : GoodIn wsX6_told wsX1_sightCount := goodIn_r _ [25, 26, 73, 74, 75, 76, 77, 78, 79, 80, 81, 82, 83, 84] (by decide +kernel) (by decide +kernel)
set_option maxRecDepth 20000 in
theorem gX6_told_X1_sightCount : GoodIn wsX6_told (wsV RX6 184 RX1 yX1_sightCount wsX1_sightCount) := goodIn_app (goodIn_of _ (by decide +kernel)) ggX6_told_X1_sightCount
set_option maxRecDepth 20000 in
theorem ggX6_told_X1_fadesInto : GoodIn wsX6_told wsX1_fadesInto := goodIn_r _ [30, 31, 32, 11, 33, 73, 74, 75, 76, 77, 78, 79, 80, 81, 82, 83, 84] (by decide +kernel) (by decide +kernel)
set_option maxRecDepth 20000 in
theorem gX6_told_X1_fadesInto : GoodIn wsX6_told (wsV RX6 94 RX1 yX1_fadesInto wsX1_fadesInto) := goodIn_app (goodIn_of _ (by decide +kernel)) ggX6_told_X1_fadesInto
set_option maxRecDepth 20000 in
theorem ggX6_told_X1_houseFact : GoodIn wsX6_told wsX1_houseFact := goodIn_r _ [37, 38, 39, 40, 16, 41, 42, 43, 11, 44, 45, 46, 47, 48, 49, 50, 51, 52, 53, 54, 73, 74, 75, 76, 77, 78, 79, 80, 81, 82, 83, 84] (by decide +kernel) (by decide +kernel)
set_option maxRecDepth 20000 in
theorem gX6_told_X1_houseFact : GoodIn wsX6_told (wsV RX6 127 RX1 yX1_houseFact wsX1_houseFact) := goodIn_app (goodIn_of _ (by decide +kernel)) ggX6_told_X1_houseFact
set_option maxRecDepth 20000 in
theorem ggX6_told_X6_isPlace : GoodIn wsX6_told wsX6_isPlace := goodIn_r _ [57] (by decide +kernel) (by decide +kernel)
set_option maxRecDepth 20000 in
theorem gX6_told_X6_isPlace : GoodIn wsX6_told (va_wsS RX6 58 yX6_isPlace wsX6_isPlace) := goodIn_app (goodIn_of _ (by decide +kernel)) ggX6_told_X6_isPlace
set_option maxRecDepth 20000 in
theorem ggX6_told_X1_longBetween : GoodIn wsX6_told wsX1_longBetween := goodIn_r _ [61, 62, 56, 11, 57, 73, 74, 75, 76, 77, 78, 79, 80, 81, 82, 83, 84] (by decide +kernel) (by decide +kernel)
set_option maxRecDepth 20000 in
theorem gX6_told_X1_longBetween : GoodIn wsX6_told (wsV RX6 66 RX1 yX1_longBetween wsX1_longBetween) := goodIn_app (goodIn_of _ (by decide +kernel)) ggX6_told_X1_longBetween
theorem dX6_told_0 : decode cX6_told 0 = .ok (.iload_n 1, 1) := by decide +kernel
theorem dX6_told_1 : decode cX6_told 1 = .ok (.ifCond .ne 11, 3) := by decide +kernel
theorem dX6_told_4 : decode cX6_told 4 = .ok (.aload_n 0, 1) := by decide +kernel
theorem dX6_told_5 : decode cX6_told 5 = .ok (.getfield 26, 3) := by decide +kernel
theorem dX6_told_8 : decode cX6_told 8 = .ok (.invokevirtual 103, 3) := by decide +kernel
theorem dX6_told_11 : decode cX6_told 11 = .ok (.ireturn, 1) := by decide +kernel
theorem dX6_told_12 : decode cX6_told 12 = .ok (.iload_n 1, 1) := by decide +kernel
theorem dX6_told_13 : decode cX6_told 13 = .ok (.iconst 1, 1) := by decide +kernel
theorem dX6_told_14 : decode cX6_told 14 = .ok (.iconst 4, 1) := by decide +kernel
theorem dX6_told_15 : decode cX6_told 15 = .ok (.invokestatic 62, 3) := by decide +kernel
theorem dX6_told_18 : decode cX6_told 18 = .ok (.ifCond .eq 14, 3) := by decide +kernel
theorem dX6_told_21 : decode cX6_told 21 = .ok (.aload_n 0, 1) := by decide +kernel
theorem dX6_told_22 : decode cX6_told 22 = .ok (.getfield 12, 3) := by decide +kernel
theorem dX6_told_25 : decode cX6_told 25 = .ok (.iload_n 1, 1) := by decide +kernel
theorem dX6_told_26 : decode cX6_told 26 = .ok (.iconst 1, 1) := by decide +kernel
theorem dX6_told_27 : decode cX6_told 27 = .ok (.isub, 1) := by decide +kernel
theorem dX6_told_28 : decode cX6_told 28 = .ok (.invokevirtual 130, 3) := by decide +kernel
theorem dX6_told_31 : decode cX6_told 31 = .ok (.ireturn, 1) := by decide +kernel
theorem dX6_told_32 : decode cX6_told 32 = .ok (.iload_n 1, 1) := by decide +kernel
theorem dX6_told_33 : decode cX6_told 33 = .ok (.iconst 5, 1) := by decide +kernel
theorem dX6_told_34 : decode cX6_told 34 = .ok (.if_icmp .ne 11, 3) := by decide +kernel
theorem dX6_told_37 : decode cX6_told 37 = .ok (.aload_n 0, 1) := by decide +kernel
theorem dX6_told_38 : decode cX6_told 38 = .ok (.getfield 12, 3) := by decide +kernel
theorem dX6_told_41 : decode cX6_told 41 = .ok (.invokevirtual 184, 3) := by decide +kernel
theorem dX6_told_44 : decode cX6_told 44 = .ok (.ireturn, 1) := by decide +kernel
theorem dX6_told_45 : decode cX6_told 45 = .ok (.iload_n 1, 1) := by decide +kernel
theorem dX6_told_46 : decode cX6_told 46 = .ok (.bipush 10, 2) := by decide +kernel
theorem dX6_told_48 : decode cX6_told 48 = .ok (.bipush 19, 2) := by decide +kernel
theorem dX6_told_50 : decode cX6_told 50 = .ok (.invokestatic 62, 3) := by decide +kernel
theorem dX6_told_53 : decode cX6_told 53 = .ok (.ifCond .eq 15, 3) := by decide +kernel
theorem dX6_told_56 : decode cX6_told 56 = .ok (.aload_n 0, 1) := by decide +kernel
theorem dX6_told_57 : decode cX6_told 57 = .ok (.getfield 12, 3) := by decide +kernel
theorem dX6_told_60 : decode cX6_told 60 = .ok (.iload_n 1, 1) := by decide +kernel
theorem dX6_told_61 : decode cX6_told 61 = .ok (.bipush 10, 2) := by decide +kernel
theorem dX6_told_63 : decode cX6_told 63 = .ok (.isub, 1) := by decide +kernel
theorem dX6_told_64 : decode cX6_told 64 = .ok (.invokevirtual 94, 3) := by decide +kernel
theorem dX6_told_67 : decode cX6_told 67 = .ok (.ireturn, 1) := by decide +kernel
theorem dX6_told_68 : decode cX6_told 68 = .ok (.iload_n 1, 1) := by decide +kernel
theorem dX6_told_69 : decode cX6_told 69 = .ok (.bipush 100, 2) := by decide +kernel
theorem dX6_told_71 : decode cX6_told 71 = .ok (.sipush 199, 3) := by decide +kernel
theorem dX6_told_74 : decode cX6_told 74 = .ok (.invokestatic 62, 3) := by decide +kernel
theorem dX6_told_77 : decode cX6_told 77 = .ok (.ifCond .eq 30, 3) := by decide +kernel
theorem dX6_told_80 : decode cX6_told 80 = .ok (.iload_n 1, 1) := by decide +kernel
theorem dX6_told_81 : decode cX6_told 81 = .ok (.bipush 10, 2) := by decide +kernel
theorem dX6_told_83 : decode cX6_told 83 = .ok (.irem, 1) := by decide +kernel
theorem dX6_told_84 : decode cX6_told 84 = .ok (.iconst 2, 1) := by decide +kernel
theorem dX6_told_85 : decode cX6_told 85 = .ok (.if_icmp .gt 22, 3) := by decide +kernel
theorem dX6_told_88 : decode cX6_told 88 = .ok (.aload_n 0, 1) := by decide +kernel
theorem dX6_told_89 : decode cX6_told 89 = .ok (.getfield 12, 3) := by decide +kernel
theorem dX6_told_92 : decode cX6_told 92 = .ok (.iload_n 1, 1) := by decide +kernel
theorem dX6_told_93 : decode cX6_told 93 = .ok (.bipush 100, 2) := by decide +kernel
theorem dX6_told_95 : decode cX6_told 95 = .ok (.isub, 1) := by decide +kernel
theorem dX6_told_96 : decode cX6_told 96 = .ok (.bipush 10, 2) := by decide +kernel
theorem dX6_told_98 : decode cX6_told 98 = .ok (.idiv, 1) := by decide +kernel
theorem dX6_told_99 : decode cX6_told 99 = .ok (.iload_n 1, 1) := by decide +kernel
theorem dX6_told_100 : decode cX6_told 100 = .ok (.bipush 10, 2) := by decide +kernel
theorem dX6_told_102 : decode cX6_told 102 = .ok (.irem, 1) := by decide +kernel
theorem dX6_told_103 : decode cX6_told 103 = .ok (.invokevirtual 127, 3) := by decide +kernel
theorem dX6_told_106 : decode cX6_told 106 = .ok (.ireturn, 1) := by decide +kernel
theorem dX6_told_107 : decode cX6_told 107 = .ok (.iload_n 1, 1) := by decide +kernel
theorem dX6_told_108 : decode cX6_told 108 = .ok (.sipush 1000, 3) := by decide +kernel
theorem dX6_told_111 : decode cX6_told 111 = .ok (.sipush 1219, 3) := by decide +kernel
theorem dX6_told_114 : decode cX6_told 114 = .ok (.invokestatic 62, 3) := by decide +kernel
theorem dX6_told_117 : decode cX6_told 117 = .ok (.ifCond .eq 21, 3) := by decide +kernel
theorem dX6_told_120 : decode cX6_told 120 = .ok (.iload_n 1, 1) := by decide +kernel
theorem dX6_told_121 : decode cX6_told 121 = .ok (.sipush 1000, 3) := by decide +kernel
theorem dX6_told_124 : decode cX6_told 124 = .ok (.isub, 1) := by decide +kernel
theorem dX6_told_125 : decode cX6_told 125 = .ok (.bipush 20, 2) := by decide +kernel
theorem dX6_told_127 : decode cX6_told 127 = .ok (.irem, 1) := by decide +kernel
theorem dX6_told_128 : decode cX6_told 128 = .ok (.invokestatic 58, 3) := by decide +kernel
theorem dX6_told_131 : decode cX6_told 131 = .ok (.ifCond .eq 7, 3) := by decide +kernel
theorem dX6_told_134 : decode cX6_told 134 = .ok (.iconst 1, 1) := by decide +kernel
theorem dX6_told_135 : decode cX6_told 135 = .ok (.goto 4, 3) := by decide +kernel
theorem dX6_told_138 : decode cX6_told 138 = .ok (.iconst 0, 1) := by decide +kernel
theorem dX6_told_139 : decode cX6_told 139 = .ok (.istore_n 2, 1) := by decide +kernel
theorem dX6_told_140 : decode cX6_told 140 = .ok (.iload_n 2, 1) := by decide +kernel
theorem dX6_told_141 : decode cX6_told 141 = .ok (.ifCond .eq 29, 3) := by decide +kernel
theorem dX6_told_144 : decode cX6_told 144 = .ok (.aload_n 0, 1) := by decide +kernel
theorem dX6_told_145 : decode cX6_told 145 = .ok (.getfield 12, 3) := by decide +kernel
theorem dX6_told_148 : decode cX6_told 148 = .ok (.iload_n 1, 1) := by decide +kernel
theorem dX6_told_149 : decode cX6_told 149 = .ok (.sipush 1000, 3) := by decide +kernel
theorem dX6_told_152 : decode cX6_told 152 = .ok (.isub, 1) := by decide +kernel
theorem dX6_told_153 : decode cX6_told 153 = .ok (.bipush 20, 2) := by decide +kernel
theorem dX6_told_155 : decode cX6_told 155 = .ok (.idiv, 1) := by decide +kernel
theorem dX6_told_156 : decode cX6_told 156 = .ok (.iload_n 1, 1) := by decide +kernel
theorem dX6_told_157 : decode cX6_told 157 = .ok (.sipush 1000, 3) := by decide +kernel
theorem dX6_told_160 : decode cX6_told 160 = .ok (.isub, 1) := by decide +kernel
theorem dX6_told_161 : decode cX6_told 161 = .ok (.bipush 20, 2) := by decide +kernel
theorem dX6_told_163 : decode cX6_told 163 = .ok (.irem, 1) := by decide +kernel
theorem dX6_told_164 : decode cX6_told 164 = .ok (.invokevirtual 66, 3) := by decide +kernel
theorem dX6_told_167 : decode cX6_told 167 = .ok (.goto 5, 3) := by decide +kernel
theorem dX6_told_170 : decode cX6_told 170 = .ok (.bipush (-2), 2) := by decide +kernel
theorem dX6_told_172 : decode cX6_told 172 = .ok (.ireturn, 1) := by decide +kernel
theorem dX6_within_0 : decode cX6_within 0 = .ok (.iload_n 0, 1) := by decide +kernel
theorem dX6_within_1 : decode cX6_within 1 = .ok (.iload_n 1, 1) := by decide +kernel
theorem dX6_within_2 : decode cX6_within 2 = .ok (.if_icmp .lt 12, 3) := by decide +kernel
theorem dX6_within_5 : decode cX6_within 5 = .ok (.iload_n 0, 1) := by decide +kernel
theorem dX6_within_6 : decode cX6_within 6 = .ok (.iload_n 2, 1) := by decide +kernel
theorem dX6_within_7 : decode cX6_within 7 = .ok (.if_icmp .gt 7, 3) := by decide +kernel
theorem dX6_within_10 : decode cX6_within 10 = .ok (.iconst 1, 1) := by decide +kernel
theorem dX6_within_11 : decode cX6_within 11 = .ok (.goto 4, 3) := by decide +kernel
theorem dX6_within_14 : decode cX6_within 14 = .ok (.iconst 0, 1) := by decide +kernel
theorem dX6_within_15 : decode cX6_within 15 = .ok (.ireturn, 1) := by decide +kernel
theorem dX6_isPlace_0 : decode cX6_isPlace 0 = .ok (.iload_n 0, 1) := by decide +kernel
theorem dX6_isPlace_1 : decode cX6_isPlace 1 = .ok (.ifCond .lt 13, 3) := by decide +kernel
theorem dX6_isPlace_4 : decode cX6_isPlace 4 = .ok (.iload_n 0, 1) := by decide +kernel
theorem dX6_isPlace_5 : decode cX6_isPlace 5 = .ok (.bipush 11, 2) := by decide +kernel
theorem dX6_isPlace_7 : decode cX6_isPlace 7 = .ok (.if_icmp .ge 7, 3) := by decide +kernel
theorem dX6_isPlace_10 : decode cX6_isPlace 10 = .ok (.iconst 1, 1) := by decide +kernel
theorem dX6_isPlace_11 : decode cX6_isPlace 11 = .ok (.goto 4, 3) := by decide +kernel
theorem dX6_isPlace_14 : decode cX6_isPlace 14 = .ok (.iconst 0, 1) := by decide +kernel
theorem dX6_isPlace_15 : decode cX6_isPlace 15 = .ok (.ireturn, 1) := by decide +kernel
theorem dX6_isHouse_0 : decode cX6_isHouse 0 = .ok (.iload_n 0, 1) := by decide +kernel
theorem dX6_isHouse_1 : decode cX6_isHouse 1 = .ok (.ifCond .lt 13, 3) := by decide +kernel
theorem dX6_isHouse_4 : decode cX6_isHouse 4 = .ok (.iload_n 0, 1) := by decide +kernel
theorem dX6_isHouse_5 : decode cX6_isHouse 5 = .ok (.bipush 10, 2) := by decide +kernel
theorem dX6_isHouse_7 : decode cX6_isHouse 7 = .ok (.if_icmp .ge 7, 3) := by decide +kernel
theorem dX6_isHouse_10 : decode cX6_isHouse 10 = .ok (.iconst 1, 1) := by decide +kernel
theorem dX6_isHouse_11 : decode cX6_isHouse 11 = .ok (.goto 4, 3) := by decide +kernel
theorem dX6_isHouse_14 : decode cX6_isHouse 14 = .ok (.iconst 0, 1) := by decide +kernel
theorem dX6_isHouse_15 : decode cX6_isHouse 15 = .ok (.ireturn, 1) := by decide +kernel
theorem dX6_isTale_0 : decode cX6_isTale 0 = .ok (.iload_n 0, 1) := by decide +kernel
theorem dX6_isTale_1 : decode cX6_isTale 1 = .ok (.ifCond .lt 13, 3) := by decide +kernel
theorem dX6_isTale_4 : decode cX6_isTale 4 = .ok (.iload_n 0, 1) := by decide +kernel
theorem dX6_isTale_5 : decode cX6_isTale 5 = .ok (.bipush 10, 2) := by decide +kernel
theorem dX6_isTale_7 : decode cX6_isTale 7 = .ok (.if_icmp .ge 7, 3) := by decide +kernel
theorem dX6_isTale_10 : decode cX6_isTale 10 = .ok (.iconst 1, 1) := by decide +kernel
theorem dX6_isTale_11 : decode cX6_isTale 11 = .ok (.goto 4, 3) := by decide +kernel
theorem dX6_isTale_14 : decode cX6_isTale 14 = .ok (.iconst 0, 1) := by decide +kernel
theorem dX6_isTale_15 : decode cX6_isTale 15 = .ok (.ireturn, 1) := by decide +kernel
theorem dX6_isIn_0 : decode cX6_isIn 0 = .ok (.iload_n 1, 1) := by decide +kernel
theorem dX6_isIn_1 : decode cX6_isIn 1 = .ok (.iload_n 0, 1) := by decide +kernel
theorem dX6_isIn_2 : decode cX6_isIn 2 = .ok (.ishr, 1) := by decide +kernel
theorem dX6_isIn_3 : decode cX6_isIn 3 = .ok (.iconst 1, 1) := by decide +kernel
theorem dX6_isIn_4 : decode cX6_isIn 4 = .ok (.iand, 1) := by decide +kernel
theorem dX6_isIn_5 : decode cX6_isIn 5 = .ok (.iconst 1, 1) := by decide +kernel
theorem dX6_isIn_6 : decode cX6_isIn 6 = .ok (.if_icmp .ne 7, 3) := by decide +kernel
theorem dX6_isIn_9 : decode cX6_isIn 9 = .ok (.iconst 1, 1) := by decide +kernel
theorem dX6_isIn_10 : decode cX6_isIn 10 = .ok (.goto 4, 3) := by decide +kernel
theorem dX6_isIn_13 : decode cX6_isIn 13 = .ok (.iconst 0, 1) := by decide +kernel
theorem dX6_isIn_14 : decode cX6_isIn 14 = .ok (.ireturn, 1) := by decide +kernel
theorem dJ6_bitCount_0f7a4_0 : decode cJ6_bitCount_0f7a4 0 = .ok (.iload_n 0, 1) := by decide +kernel
theorem dJ6_bitCount_0f7a4_1 : decode cJ6_bitCount_0f7a4 1 = .ok (.iload_n 0, 1) := by decide +kernel
theorem dJ6_bitCount_0f7a4_2 : decode cJ6_bitCount_0f7a4 2 = .ok (.iconst 1, 1) := by decide +kernel
theorem dJ6_bitCount_0f7a4_3 : decode cJ6_bitCount_0f7a4 3 = .ok (.iushr, 1) := by decide +kernel
theorem dJ6_bitCount_0f7a4_4 : decode cJ6_bitCount_0f7a4 4 = .ok (.ldc_w 265, 3) := by decide +kernel
theorem dJ6_bitCount_0f7a4_7 : decode cJ6_bitCount_0f7a4 7 = .ok (.iand, 1) := by decide +kernel
theorem dJ6_bitCount_0f7a4_8 : decode cJ6_bitCount_0f7a4 8 = .ok (.isub, 1) := by decide +kernel
theorem dJ6_bitCount_0f7a4_9 : decode cJ6_bitCount_0f7a4 9 = .ok (.istore_n 0, 1) := by decide +kernel
theorem dJ6_bitCount_0f7a4_10 : decode cJ6_bitCount_0f7a4 10 = .ok (.iload_n 0, 1) := by decide +kernel
theorem dJ6_bitCount_0f7a4_11 : decode cJ6_bitCount_0f7a4 11 = .ok (.ldc_w 266, 3) := by decide +kernel
theorem dJ6_bitCount_0f7a4_14 : decode cJ6_bitCount_0f7a4 14 = .ok (.iand, 1) := by decide +kernel
theorem dJ6_bitCount_0f7a4_15 : decode cJ6_bitCount_0f7a4 15 = .ok (.iload_n 0, 1) := by decide +kernel
theorem dJ6_bitCount_0f7a4_16 : decode cJ6_bitCount_0f7a4 16 = .ok (.iconst 2, 1) := by decide +kernel
theorem dJ6_bitCount_0f7a4_17 : decode cJ6_bitCount_0f7a4 17 = .ok (.iushr, 1) := by decide +kernel
theorem dJ6_bitCount_0f7a4_18 : decode cJ6_bitCount_0f7a4 18 = .ok (.ldc_w 266, 3) := by decide +kernel
theorem dJ6_bitCount_0f7a4_21 : decode cJ6_bitCount_0f7a4 21 = .ok (.iand, 1) := by decide +kernel
theorem dJ6_bitCount_0f7a4_22 : decode cJ6_bitCount_0f7a4 22 = .ok (.iadd, 1) := by decide +kernel
theorem dJ6_bitCount_0f7a4_23 : decode cJ6_bitCount_0f7a4 23 = .ok (.istore_n 0, 1) := by decide +kernel
theorem dJ6_bitCount_0f7a4_24 : decode cJ6_bitCount_0f7a4 24 = .ok (.iload_n 0, 1) := by decide +kernel
theorem dJ6_bitCount_0f7a4_25 : decode cJ6_bitCount_0f7a4 25 = .ok (.iload_n 0, 1) := by decide +kernel
theorem dJ6_bitCount_0f7a4_26 : decode cJ6_bitCount_0f7a4 26 = .ok (.iconst 4, 1) := by decide +kernel
theorem dJ6_bitCount_0f7a4_27 : decode cJ6_bitCount_0f7a4 27 = .ok (.iushr, 1) := by decide +kernel
theorem dJ6_bitCount_0f7a4_28 : decode cJ6_bitCount_0f7a4 28 = .ok (.iadd, 1) := by decide +kernel
theorem dJ6_bitCount_0f7a4_29 : decode cJ6_bitCount_0f7a4 29 = .ok (.ldc_w 267, 3) := by decide +kernel
theorem dJ6_bitCount_0f7a4_32 : decode cJ6_bitCount_0f7a4 32 = .ok (.iand, 1) := by decide +kernel
theorem dJ6_bitCount_0f7a4_33 : decode cJ6_bitCount_0f7a4 33 = .ok (.istore_n 0, 1) := by decide +kernel
theorem dJ6_bitCount_0f7a4_34 : decode cJ6_bitCount_0f7a4 34 = .ok (.iload_n 0, 1) := by decide +kernel
theorem dJ6_bitCount_0f7a4_35 : decode cJ6_bitCount_0f7a4 35 = .ok (.iload_n 0, 1) := by decide +kernel
theorem dJ6_bitCount_0f7a4_36 : decode cJ6_bitCount_0f7a4 36 = .ok (.bipush 8, 2) := by decide +kernel
theorem dJ6_bitCount_0f7a4_38 : decode cJ6_bitCount_0f7a4 38 = .ok (.iushr, 1) := by decide +kernel
theorem dJ6_bitCount_0f7a4_39 : decode cJ6_bitCount_0f7a4 39 = .ok (.iadd, 1) := by decide +kernel
theorem dJ6_bitCount_0f7a4_40 : decode cJ6_bitCount_0f7a4 40 = .ok (.istore_n 0, 1) := by decide +kernel
theorem dJ6_bitCount_0f7a4_41 : decode cJ6_bitCount_0f7a4 41 = .ok (.iload_n 0, 1) := by decide +kernel
theorem dJ6_bitCount_0f7a4_42 : decode cJ6_bitCount_0f7a4 42 = .ok (.iload_n 0, 1) := by decide +kernel
theorem dJ6_bitCount_0f7a4_43 : decode cJ6_bitCount_0f7a4 43 = .ok (.bipush 16, 2) := by decide +kernel
theorem dJ6_bitCount_0f7a4_45 : decode cJ6_bitCount_0f7a4 45 = .ok (.iushr, 1) := by decide +kernel
theorem dJ6_bitCount_0f7a4_46 : decode cJ6_bitCount_0f7a4 46 = .ok (.iadd, 1) := by decide +kernel
theorem dJ6_bitCount_0f7a4_47 : decode cJ6_bitCount_0f7a4 47 = .ok (.istore_n 0, 1) := by decide +kernel
theorem dJ6_bitCount_0f7a4_48 : decode cJ6_bitCount_0f7a4 48 = .ok (.iload_n 0, 1) := by decide +kernel
theorem dJ6_bitCount_0f7a4_49 : decode cJ6_bitCount_0f7a4 49 = .ok (.bipush 63, 2) := by decide +kernel
theorem dJ6_bitCount_0f7a4_51 : decode cJ6_bitCount_0f7a4 51 = .ok (.iand, 1) := by decide +kernel
theorem dJ6_bitCount_0f7a4_52 : decode cJ6_bitCount_0f7a4 52 = .ok (.ireturn, 1) := by decide +kernel
theorem dJ9_max_7cf53_0 : decode cJ9_max_7cf53 0 = .ok (.iload_n 0, 1) := by decide +kernel
theorem dJ9_max_7cf53_1 : decode cJ9_max_7cf53 1 = .ok (.iload_n 1, 1) := by decide +kernel
theorem dJ9_max_7cf53_2 : decode cJ9_max_7cf53 2 = .ok (.if_icmp .lt 7, 3) := by decide +kernel
theorem dJ9_max_7cf53_5 : decode cJ9_max_7cf53 5 = .ok (.iload_n 0, 1) := by decide +kernel
theorem dJ9_max_7cf53_6 : decode cJ9_max_7cf53 6 = .ok (.goto 4, 3) := by decide +kernel
theorem dJ9_max_7cf53_9 : decode cJ9_max_7cf53 9 = .ok (.iload_n 1, 1) := by decide +kernel
theorem dJ9_max_7cf53_10 : decode cJ9_max_7cf53 10 = .ok (.ireturn, 1) := by decide +kernel
theorem dJ9_min_7cf53_0 : decode cJ9_min_7cf53 0 = .ok (.iload_n 0, 1) := by decide +kernel
theorem dJ9_min_7cf53_1 : decode cJ9_min_7cf53 1 = .ok (.iload_n 1, 1) := by decide +kernel
theorem dJ9_min_7cf53_2 : decode cJ9_min_7cf53 2 = .ok (.if_icmp .gt 7, 3) := by decide +kernel
theorem dJ9_min_7cf53_5 : decode cJ9_min_7cf53 5 = .ok (.iload_n 0, 1) := by decide +kernel
theorem dJ9_min_7cf53_6 : decode cJ9_min_7cf53 6 = .ok (.goto 4, 3) := by decide +kernel
theorem dJ9_min_7cf53_9 : decode cJ9_min_7cf53 9 = .ok (.iload_n 1, 1) := by decide +kernel
theorem dJ9_min_7cf53_10 : decode cJ9_min_7cf53 10 = .ok (.ireturn, 1) := by decide +kernel
theorem dJ7_fill_53178_0 : decode cJ7_fill_53178 0 = .ok (.iconst 0, 1) := by decide +kernel
theorem dJ7_fill_53178_1 : decode cJ7_fill_53178 1 = .ok (.istore_n 2, 1) := by decide +kernel
theorem dJ7_fill_53178_2 : decode cJ7_fill_53178 2 = .ok (.aload_n 0, 1) := by decide +kernel
theorem dJ7_fill_53178_3 : decode cJ7_fill_53178 3 = .ok (.arraylength, 1) := by decide +kernel
theorem dJ7_fill_53178_4 : decode cJ7_fill_53178 4 = .ok (.istore_n 3, 1) := by decide +kernel
theorem dJ7_fill_53178_5 : decode cJ7_fill_53178 5 = .ok (.iload_n 2, 1) := by decide +kernel
theorem dJ7_fill_53178_6 : decode cJ7_fill_53178 6 = .ok (.iload_n 3, 1) := by decide +kernel
theorem dJ7_fill_53178_7 : decode cJ7_fill_53178 7 = .ok (.if_icmp .ge 13, 3) := by decide +kernel
theorem dJ7_fill_53178_10 : decode cJ7_fill_53178 10 = .ok (.aload_n 0, 1) := by decide +kernel
theorem dJ7_fill_53178_11 : decode cJ7_fill_53178 11 = .ok (.iload_n 2, 1) := by decide +kernel
theorem dJ7_fill_53178_12 : decode cJ7_fill_53178 12 = .ok (.iload_n 1, 1) := by decide +kernel
theorem dJ7_fill_53178_13 : decode cJ7_fill_53178 13 = .ok (.iastore, 1) := by decide +kernel
theorem dJ7_fill_53178_14 : decode cJ7_fill_53178 14 = .ok (.iinc 2 1, 3) := by decide +kernel
theorem dJ7_fill_53178_17 : decode cJ7_fill_53178 17 = .ok (.goto (-12), 3) := by decide +kernel
theorem dJ7_fill_53178_20 : decode cJ7_fill_53178 20 = .ok (.return_, 1) := by decide +kernel
theorem dL_cell_0 : decode cL_cell 0 = .ok (.aload_n 0, 1) := by decide +kernel
theorem dL_cell_1 : decode cL_cell 1 = .ok (.arraylength, 1) := by decide +kernel
theorem dL_cell_2 : decode cL_cell 2 = .ok (.ifCond .ne 12, 3) := by decide +kernel
theorem dL_cell_5 : decode cL_cell 5 = .ok (.iload_n 1, 1) := by decide +kernel
theorem dL_cell_6 : decode cL_cell 6 = .ok (.bipush 37, 2) := by decide +kernel
theorem dL_cell_8 : decode cL_cell 8 = .ok (.imul, 1) := by decide +kernel
theorem dL_cell_9 : decode cL_cell 9 = .ok (.iconst 5, 1) := by decide +kernel
theorem dL_cell_10 : decode cL_cell 10 = .ok (.iadd, 1) := by decide +kernel
theorem dL_cell_11 : decode cL_cell 11 = .ok (.goto 17, 3) := by decide +kernel
theorem dL_cell_14 : decode cL_cell 14 = .ok (.aload_n 0, 1) := by decide +kernel
theorem dL_cell_15 : decode cL_cell 15 = .ok (.iload_n 1, 1) := by decide +kernel
theorem dL_cell_16 : decode cL_cell 16 = .ok (.aload_n 0, 1) := by decide +kernel
theorem dL_cell_17 : decode cL_cell 17 = .ok (.arraylength, 1) := by decide +kernel
theorem dL_cell_18 : decode cL_cell 18 = .ok (.irem, 1) := by decide +kernel
theorem dL_cell_19 : decode cL_cell 19 = .ok (.iaload, 1) := by decide +kernel
theorem dL_cell_20 : decode cL_cell 20 = .ok (.iload_n 1, 1) := by decide +kernel
theorem dL_cell_21 : decode cL_cell 21 = .ok (.bipush 7, 2) := by decide +kernel
theorem dL_cell_23 : decode cL_cell 23 = .ok (.irem, 1) := by decide +kernel
theorem dL_cell_24 : decode cL_cell 24 = .ok (.ishr, 1) := by decide +kernel
theorem dL_cell_25 : decode cL_cell 25 = .ok (.ldc 7, 2) := by decide +kernel
theorem dL_cell_27 : decode cL_cell 27 = .ok (.iand, 1) := by decide +kernel
theorem dL_cell_28 : decode cL_cell 28 = .ok (.iload_n 2, 1) := by decide +kernel
theorem dL_cell_29 : decode cL_cell 29 = .ok (.irem, 1) := by decide +kernel
theorem dL_cell_30 : decode cL_cell 30 = .ok (.ireturn, 1) := by decide +kernel
theorem dL_has_0 : decode cL_has 0 = .ok (.iload_n 0, 1) := by decide +kernel
theorem dL_has_1 : decode cL_has 1 = .ok (.iload_n 1, 1) := by decide +kernel
theorem dL_has_2 : decode cL_has 2 = .ok (.ishr, 1) := by decide +kernel
theorem dL_has_3 : decode cL_has 3 = .ok (.iconst 1, 1) := by decide +kernel
theorem dL_has_4 : decode cL_has 4 = .ok (.iand, 1) := by decide +kernel
theorem dL_has_5 : decode cL_has 5 = .ok (.iconst 1, 1) := by decide +kernel
theorem dL_has_6 : decode cL_has 6 = .ok (.if_icmp .ne 7, 3) := by decide +kernel
theorem dL_has_9 : decode cL_has 9 = .ok (.iconst 1, 1) := by decide +kernel
theorem dL_has_10 : decode cL_has 10 = .ok (.goto 4, 3) := by decide +kernel
theorem dL_has_13 : decode cL_has 13 = .ok (.iconst 0, 1) := by decide +kernel
theorem dL_has_14 : decode cL_has 14 = .ok (.ireturn, 1) := by decide +kernel
theorem dL_bits_0 : decode cL_bits 0 = .ok (.iconst 0, 1) := by decide +kernel
theorem dL_bits_1 : decode cL_bits 1 = .ok (.istore_n 1, 1) := by decide +kernel
theorem dL_bits_2 : decode cL_bits 2 = .ok (.iconst 0, 1) := by decide +kernel
theorem dL_bits_3 : decode cL_bits 3 = .ok (.istore_n 2, 1) := by decide +kernel
theorem dL_bits_4 : decode cL_bits 4 = .ok (.iload_n 2, 1) := by decide +kernel
theorem dL_bits_5 : decode cL_bits 5 = .ok (.bipush 12, 2) := by decide +kernel
theorem dL_bits_7 : decode cL_bits 7 = .ok (.if_icmp .ge 17, 3) := by decide +kernel
theorem dL_bits_10 : decode cL_bits 10 = .ok (.iload_n 1, 1) := by decide +kernel
theorem dL_bits_11 : decode cL_bits 11 = .ok (.iload_n 0, 1) := by decide +kernel
theorem dL_bits_12 : decode cL_bits 12 = .ok (.iload_n 2, 1) := by decide +kernel
theorem dL_bits_13 : decode cL_bits 13 = .ok (.ishr, 1) := by decide +kernel
theorem dL_bits_14 : decode cL_bits 14 = .ok (.iconst 1, 1) := by decide +kernel
theorem dL_bits_15 : decode cL_bits 15 = .ok (.iand, 1) := by decide +kernel
theorem dL_bits_16 : decode cL_bits 16 = .ok (.iadd, 1) := by decide +kernel
theorem dL_bits_17 : decode cL_bits 17 = .ok (.istore_n 1, 1) := by decide +kernel
theorem dL_bits_18 : decode cL_bits 18 = .ok (.iinc 2 1, 3) := by decide +kernel
theorem dL_bits_21 : decode cL_bits 21 = .ok (.goto (-17), 3) := by decide +kernel
theorem dL_bits_24 : decode cL_bits 24 = .ok (.iload_n 1, 1) := by decide +kernel
theorem dL_bits_25 : decode cL_bits 25 = .ok (.ireturn, 1) := by decide +kernel
end
section
/-! what every contract of this claim says of its start and end, and one row a call -/
abbrev GT : Type := va_G × (ClassId × (ClassId × (ClassId × ClassId)))
abbrev tyL (g : GT) : List (ClassId × FieldType) := [(g.2.1, .int), (g.2.2.1, .long), (g.2.1, .int), (g.2.2.2.2, .object RX1)]
abbrev aI (g : GT) (q n : Nat) (f : Nat → Int32) : Nat × va_E := (q, .inl (g.2.1, n, .inl f))
abbrev aJ (g : GT) (q n : Nat) (f : Nat → Int64) : Nat × va_E := (q, .inl (g.2.2.1, n, .inr (.inl f)))
abbrev aZ (g : GT) (q n : Nat) (f : Nat → Int32) : Nat × va_E := (q, .inl (g.2.2.2.1, n, .inl f))
abbrev aQ (g : GT) (q n : Nat) (f : Nat → Option Nat) : Nat × va_E := (q, .inl (g.2.2.2.2, n, .inr (.inr (.inr (.inr f)))))
def nwL : List Cond := [.methodLinkNest RX6 25 yX3_init RX6, .methodLinkNest RX6 32 yX2_init RX6, .methodLinkNest RX6 39 yX5_init RX6, .methodLinkNest RX6 46 yX4_init RX6, .methodLinkNest RX6 53 yX0_init RX6, .methodLinkNest RX1 61 yX6_isPlace RX6, .methodLinkNest RX1 65 yX6_isHouse RX6, .methodLinkNest RX1 86 yX6_isTale RX6, .methodLinkNest RX3 19 yX6_within RX6, .methodLinkNest RX5 31 yX6_isPlace RX6, .methodLinkNest RX5 72 yX6_within RX6, .methodLinkNest RX5 76 yX6_isHouse RX6, .methodLinkNest RX5 68 yX6_isIn RX6, .methodLinkNest RX1 92 yX6_isIn RX6, .methodLinkNest RX1 103 yX6_within RX6, .methodLinkNest RX4 57 yX6_isTale RX6, .methodLinkNest RX4 33 yX6_within RX6, .methodLinkNest RX0 34 yX6_within RX6, .fieldLinkNest RX6 146 RX2 "acts" "I" RX6, .fieldLinkNest RX6 124 RX2 "beds" "I" RX6, .fieldLinkNest RX6 117 RX2 "hinderedAct" "I" RX6, .fieldLinkNest RX6 121 RX2 "reason" "I" RX6, .fieldLinkNest RX6 136 RX2 "otherAct" "I" RX6, .fieldLinkNest RX6 139 RX2 "otherHouse" "I" RX6]
def NW (U : State) : Prop := (∀ w ∈ nwL, va_Nw w U) ∧ va_AO RX1 U
theorem NW.get {U : State} (h : NW U) (i : Nat) {w : Cond} (hi : nwL[i]? = some w) : va_Nw w U := h.1 w (List.mem_of_getElem? hi)
theorem NW.moved {s U : State} (hW : s.WarmedH U.vm) (h : NW s) : NW U := by
  refine ⟨?_, va_AO.moved hW.alike h.2⟩
  have k := h.1
  unfold nwL at k ⊢
  simp only [List.forall_mem_cons] at k ⊢
  obtain ⟨a0, a1, a2, a3, a4, a5, a6, a7, a8, a9, a10, a11, a12, a13, a14, a15, a16, a17, b0, b1, b2, b3, b4, b5, -⟩ := k
  exact ⟨va_Nw.warmM hW a0, va_Nw.warmM hW a1, va_Nw.warmM hW a2, va_Nw.warmM hW a3, va_Nw.warmM hW a4, va_Nw.warmM hW a5, va_Nw.warmM hW a6, va_Nw.warmM hW a7, va_Nw.warmM hW a8, va_Nw.warmM hW a9, va_Nw.warmM hW a10, va_Nw.warmM hW a11, va_Nw.warmM hW a12, va_Nw.warmM hW a13, va_Nw.warmM hW a14, va_Nw.warmM hW a15, va_Nw.warmM hW a16, va_Nw.warmM hW a17, va_Nw.warmF hW b0, va_Nw.warmF hW b1, va_Nw.warmF hW b2, va_Nw.warmF hW b3, va_Nw.warmF hW b4, va_Nw.warmF hW b5, fun _ h => absurd h List.not_mem_nil⟩
theorem NW.same {u U : State} (e : u.vm = U.vm) (h : NW u) : NW U := by
  refine ⟨fun w hw => va_Nw.same ?_ e (h.1 w hw), va_AO.moved (by rw [e]; exact Vm.Alike.refl U.vm) h.2⟩
  unfold nwL at hw
  simp only [List.mem_cons, List.not_mem_nil, or_false] at hw
  rcases hw with rfl | rfl | rfl | rfl | rfl | rfl | rfl | rfl | rfl | rfl | rfl | rfl | rfl | rfl | rfl | rfl | rfl | rfl | rfl | rfl | rfl | rfl | rfl | rfl <;> rfl
/-- a method's start: its world, the tables, the nest's words -/
def gP (g : GT) (ws : va_W) (sz : Nat) (U : State) : Prop := U.heap.size = sz ∧ va_P g.1 vwCl ws U.heap ∧ va_K g.1 vwCl (tyL g) U ∧ va_D (fun _ => True) ws ∧ NW U
/-- a method's end: its world -/
def gB (g : GT) (ws : va_W) (A : Nat → Prop) (t : State) : Prop := va_P g.1 vwCl ws t.heap ∧ va_D A ws
theorem gP_blind {g : GT} {ws : va_W} {sz : Nat} (av : List Value) : FrameBlind (va_Pc av (gP g ws sz)) := fun a U gg mk q => by
  obtain ⟨q0, q1, qP, qK, qD, qN⟩ := q
  exact ⟨q0, q1, qP, va_K.moved (u := U) (U := U.calling gg mk a) (Vm.Alike.refl U.vm) qK, qD, NW.same (u := U) (U := U.calling gg mk a) rfl qN⟩
theorem P_nil {D : va_G} {cl : List vw_C} {H : Heap} : va_P D cl [] H := fun k q h => by simp at h
theorem D_nil {A : Nat → Prop} : va_D A [] := ⟨fun i j p q h => by simp at h, fun k q h => by simp at h⟩
/-- contracts: an int, a long, none; u: what the world behind it depends on -/
abbrev Mi {S : Type} (l : Launch) (y : MethodName) (wsl : List Cond) (rm : Room) (g : GT) (sz : Nat) (av : List Value) (w0 : va_W) (mc ms : Nat) (post : Int32 → S → Prop) (wf : S → va_W) : Prop :=
  Met l y wsl rm (va_Pc av (gP g w0 sz)) (va_Qi post (fun u t => gB g (wf u) (va_A w0 sz) t) (va_A w0 sz)) mc ms (va_A w0 sz)
abbrev Ml {S : Type} (l : Launch) (y : MethodName) (wsl : List Cond) (rm : Room) (g : GT) (sz : Nat) (av : List Value) (w0 : va_W) (mc ms : Nat) (post : Int64 → S → Prop) (wf : S → va_W) : Prop :=
  Met l y wsl rm (va_Pc av (gP g w0 sz)) (va_Ql post (fun u t => gB g (wf u) (va_A w0 sz) t) (va_A w0 sz)) mc ms (va_A w0 sz)
abbrev Mv {S : Type} (l : Launch) (y : MethodName) (wsl : List Cond) (rm : Room) (g : GT) (sz : Nat) (av : List Value) (w0 : va_W) (mc ms : Nat) (post : S → Prop) (wf : S → va_W) : Prop :=
  Met l y wsl rm (va_Pc av (gP g w0 sz)) (va_Qv post (fun u t => gB g (wf u) (va_A w0 sz) t) (va_A w0 sz)) mc ms (va_A w0 sz)
/-- the same with the answer and the world said -/
abbrev Ci (l : Launch) (y : MethodName) (wsl : List Cond) (rm : Room) (g : GT) (sz : Nat) (av : List Value) (w0 : va_W) (v : Int32) (w1 : va_W) : Prop :=
  Mi (S := Unit) l y wsl rm g sz av w0 0 0 (fun r _ => r = v) (fun _ => w1)
abbrev Cl (l : Launch) (y : MethodName) (wsl : List Cond) (rm : Room) (g : GT) (sz : Nat) (av : List Value) (w0 : va_W) (v : Int64) (w1 : va_W) : Prop :=
  Ml (S := Unit) l y wsl rm g sz av w0 0 0 (fun r _ => r = v) (fun _ => w1)
abbrev Cv (l : Launch) (y : MethodName) (wsl : List Cond) (rm : Room) (g : GT) (sz : Nat) (av : List Value) (w0 : va_W) (w1 : va_W) : Prop :=
  Mv (S := Unit) l y wsl rm g sz av w0 0 0 (fun _ => True) (fun _ => w1)
/-- a method without a world -/
abbrev Cp (l : Launch) (y : MethodName) (wsl : List Cond) (rm : Room) (av : List Value) (v : Int32) : Prop :=
  Met l y wsl rm (va_Pc av (fun _ => True)) (vp_Si (fun r => r = v)) 0 0 (fun _ => False)
section GBS
variable {p : Program} {l : Launch} {e : Env} {R : Room} {s : State} {m : MethodId} {args : Array Value} {below : List Frame} {meth : Method} {c : Code} {H : Heap} {locs : List Loc} {cells slots : Nat} {Q : State → Prop}
variable {cc : ByteArray} {pc : Nat} {ls : Array Slot} {rest : List Value} {g : GT} {A : Nat → Prop} {ws : va_W} {H0 : Heap}
theorem gtop {x y : Int32} (h : x = y) (k : W p l e R s m args below meth c H locs cells slots Q (F0 m pc ls (.int y :: rest))) : W p l e R s m args below meth c H locs cells slots Q (F0 m pc ls (.int x :: rest)) := by
  subst h; exact k
theorem gtopl {x y : Int64} (h : x = y) (k : W p l e R s m args below meth c H locs cells slots Q (F0 m pc ls (.long y :: rest))) : W p l e R s m args below meth c H locs cells slots Q (F0 m pc ls (.long x :: rest)) := by
  subst h; exact k
theorem ws_same {w w' : va_W} {q0 : Nat} {a : Nat} {E E' : va_E} (hw : w.set q0 (a, E') = w') (hP : ∀ D cl H, va_at D cl (a, E) H → va_at D cl (a, E') H) {D : va_G} {cl : List vw_C} {H : Heap} (h : va_P D cl (w.set q0 (a, E)) H) : va_P D cl w' H := by
  subst hw
  intro k q hk
  rw [List.getElem?_set] at hk
  have h1 := h k
  rw [List.getElem?_set] at h1
  by_cases e : q0 = k
  · rw [if_pos e] at hk h1
    by_cases b : q0 < w.length
    · rw [if_pos b] at hk h1
      cases hk
      exact hP D cl H (h1 _ rfl)
    · rw [if_neg b] at hk; cases hk
  · rw [if_neg e] at hk h1
    exact h1 q hk
theorem ws_sameD {w w' : va_W} {q0 : Nat} {a : Nat} {E E' : va_E} (hw : w.set q0 (a, E') = w') (h : va_D A (w.set q0 (a, E))) : va_D A w' := by
  subst hw
  have k : ∀ (k : Nat) (q : Nat × va_E), (w.set q0 (a, E'))[k]? = some q → ∃ q', (w.set q0 (a, E))[k]? = some q' ∧ q'.1 = q.1 := by
    intro k q hk
    rw [List.getElem?_set] at hk ⊢
    by_cases e : q0 = k
    · rw [if_pos e] at hk ⊢
      by_cases b : q0 < w.length
      · rw [if_pos b] at hk ⊢
        cases hk
        exact ⟨_, rfl, rfl⟩
      · rw [if_neg b] at hk; cases hk
    · rw [if_neg e] at hk ⊢
      exact ⟨q, hk, rfl⟩
  refine ⟨fun i j x y hx hy hxy => ?_, fun i x hx => ?_⟩
  · obtain ⟨x', hx', ex⟩ := k i x hx
    obtain ⟨y', hy', ey⟩ := k j y hy
    exact h.1 i j x' y' hx' hy' (by rw [ex, ey]; exact hxy)
  · obtain ⟨x', hx', ex⟩ := k i x hx
    rw [← ex]
    exact h.2 i x' hx'
theorem arrV_ext {cA : ClassId} {n : Nat} {z z' : Nat → Value} (h : ∀ j, j < n → z j = z' j) : arrV cA n z = arrV cA n z' := by
  unfold arrV
  congr 1
  apply Array.ext
  · simp
  · intro j h1 h2
    simp only [Array.getElem_ofFn]
    exact h j (by simpa using h1)
theorem at_extI {D : va_G} {cl : List vw_C} {a n : Nat} {cA : ClassId} {f f' : Nat → Int32} (h : ∀ j, j < n → f j = f' j) {H : Heap} (k : va_at D cl (a, .inl (cA, n, .inl f)) H) : va_at D cl (a, .inl (cA, n, .inl f')) H := by
  show H[a]? = some (vp_cell cA (n, .inl f'))
  have k : H[a]? = some (vp_cell cA (n, .inl f)) := k
  rw [k, vp_cell_i, vp_cell_i, arrV_ext (fun j hj => by rw [h j hj])]
theorem at_extJ {D : va_G} {cl : List vw_C} {a n : Nat} {cA : ClassId} {f f' : Nat → Int64} (h : ∀ j, j < n → f j = f' j) {H : Heap} (k : va_at D cl (a, .inl (cA, n, .inr (.inl f))) H) : va_at D cl (a, .inl (cA, n, .inr (.inl f'))) H := by
  show H[a]? = some (vp_cell cA (n, .inr (.inl f')))
  have k : H[a]? = some (vp_cell cA (n, .inr (.inl f))) := k
  rw [k, vp_cell_l, vp_cell_l, arrV_ext (fun j hj => by rw [h j hj])]
/-- a cell's contents under another name -/
theorem r_extI (hP : va_P g.1 vwCl ws H) (hD : va_D A ws) (q0 : Nat) {a n : Nat} {cA : ClassId} {f f' : Nat → Int32} (ha : ws[q0]? = some (a, .inl (cA, n, .inl f))) (h : ∀ j, j < n → f j = f' j) : va_P g.1 vwCl (ws.set q0 (a, .inl (cA, n, .inl f'))) H ∧ va_D A (ws.set q0 (a, .inl (cA, n, .inl f'))) := by
  have e : ws.set q0 (a, .inl (cA, n, .inl f)) = ws := by
    apply List.ext_getElem?
    intro k
    rw [List.getElem?_set]
    by_cases z : q0 = k
    · subst z
      have b : q0 < ws.length := (List.getElem?_eq_some_iff.mp ha).1
      rw [if_pos rfl, if_pos b, ha]
    · rw [if_neg z]
  exact ⟨ws_same (E := .inl (cA, n, .inl f)) rfl (fun D cl H k => at_extI h k) (by rw [e]; exact hP), ws_sameD (E := .inl (cA, n, .inl f)) rfl (by rw [e]; exact hD)⟩
theorem r_iald (hx : p.tables.exec = Jvm.exec) (hb : c.code = cc) (hK : va_K g.1 vwCl (tyL g) s) (hP : va_P g.1 vwCl ws H) (q0 : Nat) {a n : Nat} {f : Nat → Int32} (ha : ws[q0]? = some (aI g a n f)) {i v : Int32} (hin : vp_in i n) (hv : f i.toNatClampNeg = v) (hdg : decode cc pc = .ok (.iaload, 1))
    (kk : W p l e R s m args below meth c H locs cells slots Q (F0 m (pc + 1) ls (.int v :: rest))) : W p l e R s m args below meth c H locs cells slots Q (F0 m pc ls (.int i :: .ref a :: rest)) := by
  subst hv
  exact va_iald hx hb hK hP q0 0 ha rfl hin hdg kk
theorem r_lald (hx : p.tables.exec = Jvm.exec) (hb : c.code = cc) (hK : va_K g.1 vwCl (tyL g) s) (hP : va_P g.1 vwCl ws H) (q0 : Nat) {a n : Nat} {f : Nat → Int64} (ha : ws[q0]? = some (aJ g a n f)) {i : Int32} {v : Int64} (hin : vp_in i n) (hv : f i.toNatClampNeg = v) (hdg : decode cc pc = .ok (.laload, 1))
    (kk : W p l e R s m args below meth c H locs cells slots Q (F0 m (pc + 1) ls (.long v :: rest))) : W p l e R s m args below meth c H locs cells slots Q (F0 m pc ls (.int i :: .ref a :: rest)) := by
  subst hv
  exact va_lald hx hb hK hP q0 1 ha rfl hin hdg kk
theorem r_iast (hx : p.tables.exec = Jvm.exec) (hb : c.code = cc) (hK : va_K g.1 vwCl (tyL g) s) (hP : va_P g.1 vwCl ws H) (hD : va_D A ws) (hS : va_S A H0 H locs) (q0 : Nat) {a n : Nat} {f f' : Nat → Int32} (ha : ws[q0]? = some (aI g a n f)) {i x : Int32} (hin : vp_in i n) (hf : ∀ j, j < n → upd f i.toNatClampNeg x j = f' j) (hdg : decode cc pc = .ok (.iastore, 1))
    (kk : ∀ (H : Heap) (locs : List Loc), va_P g.1 vwCl (ws.set q0 (aI g a n f')) H → va_D A (ws.set q0 (aI g a n f')) → va_S A H0 H locs → W p l e R s m args below meth c H locs cells slots Q (F0 m (pc + 1) ls rest)) : W p l e R s m args below meth c H locs cells slots Q (F0 m pc ls (.int x :: .int i :: .ref a :: rest)) :=
  va_iast hx hb hK hP hD hS q0 0 ha rfl hin hdg (fun H1 locs1 hP1 hD1 hS1 => kk H1 locs1 (ws_same rfl (fun D cl H k => at_extI hf k) hP1) (ws_sameD rfl hD1) hS1)
theorem r_last (hx : p.tables.exec = Jvm.exec) (hb : c.code = cc) (hK : va_K g.1 vwCl (tyL g) s) (hP : va_P g.1 vwCl ws H) (hD : va_D A ws) (hS : va_S A H0 H locs) (q0 : Nat) {a n : Nat} {f f' : Nat → Int64} (ha : ws[q0]? = some (aJ g a n f)) {i : Int32} {x : Int64} (hin : vp_in i n) (hf : ∀ j, j < n → vp_updL f i.toNatClampNeg x j = f' j) (hdg : decode cc pc = .ok (.lastore, 1))
    (kk : ∀ (H : Heap) (locs : List Loc), va_P g.1 vwCl (ws.set q0 (aJ g a n f')) H → va_D A (ws.set q0 (aJ g a n f')) → va_S A H0 H locs → W p l e R s m args below meth c H locs cells slots Q (F0 m (pc + 1) ls rest)) : W p l e R s m args below meth c H locs cells slots Q (F0 m pc ls (.long x :: .int i :: .ref a :: rest)) :=
  va_last hx hb hK hP hD hS q0 1 ha rfl hin hdg (fun H1 locs1 hP1 hD1 hS1 => kk H1 locs1 (ws_same rfl (fun D cl H k => at_extJ hf k) hP1) (ws_sameD rfl hD1) hS1)
/-- behind a run of an int answer -/
theorem gck_i {S : Type} {post : Int32 → S → Prop} {wf : S → va_W} {wc : va_W} {a : Array Value} {st0 : List Value} {mc ms : Nat}
    (hr : va_Run p l e R s m args below meth c H locs cells slots mc ms (F0 m pc ls st0) rest (va_Qi post (fun u t => gB g (wf u) (va_A wc H.size) t) (va_A wc H.size) a) (va_A wc H.size))
    (hP : va_P g.1 vwCl ws H) (hD : va_D A ws) (hS : va_S A H0 H locs) (hA : ∀ q, H0.size ≤ q → A q) (isC isR : List Nat) (hC : isC.map (fun i => ws[i]?) = wc.map some) (hn : va_nd isR = true) (hdis : ∀ i ∈ isR, i ∉ isC) (hR : isR.map (fun i => ws[i]?) = (isR.filterMap (fun i => ws[i]?)).map some)
    (kk : ∀ (r : Int32) (u : S) (H1 : Heap) (locs1 : List Loc), post r u → va_P g.1 vwCl (isR.filterMap (fun i => ws[i]?) ++ wf u) H1 → va_D A (isR.filterMap (fun i => ws[i]?) ++ wf u) → va_S A H0 H1 locs1 → W p l e R s m args below meth c H1 locs1 (cells + mc) (slots + ms) Q (F0 m (pc + 3) ls (.int r :: rest))) : W p l e R s m args below meth c H locs cells slots Q (F0 m pc ls st0) := by
  have hF := va_free hD hS hA isC hC
  refine va_calli hr hS (fun q _ h => hF q h) hF (fun r u t H1 locs1 ht hvm hw hB hz hk hS1 => ?_)
  obtain ⟨hP1, hD1⟩ := hB
  rw [ht] at hP1
  obtain ⟨hP2, hD2⟩ := va_join hP hD isC isR hC hR hn hdis hk hF hP1 hD1
  exact kk r u H1 locs1 hw hP2 hD2 hS1
theorem gck_l {S : Type} {post : Int64 → S → Prop} {wf : S → va_W} {wc : va_W} {a : Array Value} {st0 : List Value} {mc ms : Nat}
    (hr : va_Run p l e R s m args below meth c H locs cells slots mc ms (F0 m pc ls st0) rest (va_Ql post (fun u t => gB g (wf u) (va_A wc H.size) t) (va_A wc H.size) a) (va_A wc H.size))
    (hP : va_P g.1 vwCl ws H) (hD : va_D A ws) (hS : va_S A H0 H locs) (hA : ∀ q, H0.size ≤ q → A q) (isC isR : List Nat) (hC : isC.map (fun i => ws[i]?) = wc.map some) (hn : va_nd isR = true) (hdis : ∀ i ∈ isR, i ∉ isC) (hR : isR.map (fun i => ws[i]?) = (isR.filterMap (fun i => ws[i]?)).map some)
    (kk : ∀ (r : Int64) (u : S) (H1 : Heap) (locs1 : List Loc), post r u → va_P g.1 vwCl (isR.filterMap (fun i => ws[i]?) ++ wf u) H1 → va_D A (isR.filterMap (fun i => ws[i]?) ++ wf u) → va_S A H0 H1 locs1 → W p l e R s m args below meth c H1 locs1 (cells + mc) (slots + ms) Q (F0 m (pc + 3) ls (.long r :: rest))) : W p l e R s m args below meth c H locs cells slots Q (F0 m pc ls st0) := by
  have hF := va_free hD hS hA isC hC
  refine va_calll hr hS (fun q _ h => hF q h) hF (fun r u t H1 locs1 ht hvm hw hB hz hk hS1 => ?_)
  obtain ⟨hP1, hD1⟩ := hB
  rw [ht] at hP1
  obtain ⟨hP2, hD2⟩ := va_join hP hD isC isR hC hR hn hdis hk hF hP1 hD1
  exact kk r u H1 locs1 hw hP2 hD2 hS1
theorem gck_v {S : Type} {post : S → Prop} {wf : S → va_W} {wc : va_W} {a : Array Value} {st0 : List Value} {mc ms : Nat}
    (hr : va_Run p l e R s m args below meth c H locs cells slots mc ms (F0 m pc ls st0) rest (va_Qv post (fun u t => gB g (wf u) (va_A wc H.size) t) (va_A wc H.size) a) (va_A wc H.size))
    (hP : va_P g.1 vwCl ws H) (hD : va_D A ws) (hS : va_S A H0 H locs) (hA : ∀ q, H0.size ≤ q → A q) (isC isR : List Nat) (hC : isC.map (fun i => ws[i]?) = wc.map some) (hn : va_nd isR = true) (hdis : ∀ i ∈ isR, i ∉ isC) (hR : isR.map (fun i => ws[i]?) = (isR.filterMap (fun i => ws[i]?)).map some)
    (kk : ∀ (u : S) (H1 : Heap) (locs1 : List Loc), post u → va_P g.1 vwCl (isR.filterMap (fun i => ws[i]?) ++ wf u) H1 → va_D A (isR.filterMap (fun i => ws[i]?) ++ wf u) → va_S A H0 H1 locs1 → W p l e R s m args below meth c H1 locs1 (cells + mc) (slots + ms) Q (F0 m (pc + 3) ls rest)) : W p l e R s m args below meth c H locs cells slots Q (F0 m pc ls st0) := by
  have hF := va_free hD hS hA isC hC
  refine va_callv hr hS (fun q _ h => hF q h) hF (fun u t H1 locs1 ht hvm hw hB hz hk hS1 => ?_)
  obtain ⟨hP1, hD1⟩ := hB
  rw [ht] at hP1
  obtain ⟨hP2, hD2⟩ := va_join hP hD isC isR hC hR hn hdis hk hF hP1 hD1
  exact kk u H1 locs1 hw hP2 hD2 hS1
/-- the start of a callee's world out of the caller's -/
theorem gpre {wc : va_W} (hP : va_P g.1 vwCl ws H) (hD : va_D A ws) (hK : va_K g.1 vwCl (tyL g) s) (hN : NW s) (isC : List Nat) (hnC : va_nd isC = true) (hC : isC.map (fun i => ws[i]?) = wc.map some) (av : List Value) :
    ∀ U : State, U.heap = H → s.WarmedH U.vm → va_Pc av (gP g wc H.size) av.toArray U := by
  intro U hU hW
  have hf : isC.filterMap (fun i => ws[i]?) = wc := by
    have h2 : (isC.map (fun i => ws[i]?)).filterMap id = (wc.map some).filterMap id := by rw [hC]
    simpa [List.filterMap_map, Function.comp_def] using h2
  refine ⟨rfl, by rw [hU], by rw [hU]; exact hP.sub isC hf, va_K.moved hW.alike hK, (hD.sub isC hnC hC).weaken (fun _ _ _ _ => trivial), hN.moved hW⟩
end GBS
end
section
/-! one row a call; a contract's start; its ends -/
section GCS
variable {p : Program} {l : Launch} {e : Env} {R : Room} {s : State} {m : MethodId} {args : Array Value} {below : List Frame} {meth : Method} {c : Code} {H : Heap} {locs : List Loc} {cells slots : Nat} {Q : State → Prop}
variable {cc : ByteArray} {pc : Nat} {ls : Array Slot} {rest : List Value} {g : GT} {A : Nat → Prop} {ws : va_W} {H0 : Heap}
variable {S : Type} {y : MethodName} {bytes : ByteArray} {maxL nL mc ms n index ci : Nat} {ret : Option FieldType} {wsl wsl' Ts : List Cond} {rm : Room} {own host : String} {b : Addr} {As st0 fs : List Value} {wc : va_W} {wf : S → va_W} {q : vw_C}
/-- what is known of a method's name -/
abbrev YOk (y : MethodName) (n : Nat) : Prop := y.cls ≠ "java/lang/invoke/MethodHandle" ∧ y.cls ≠ "java/lang/invoke/VarHandle" ∧ (parseMethodDescriptor y.desc).map (fun d => d.parameters.length) = some n
theorem gcV_i {post : Int32 → S → Prop} (F : CallFix p m c cc nL s args Ts own) (hK : va_K g.1 vwCl (tyL g) s) (hN : NW s) (hP : va_P g.1 vwCl ws H) (hD : va_D A ws) (hS : va_S A H0 H locs) (hA : ∀ q, H0.size ≤ q → A q)
    (M : Mi l y wsl rm g H.size (.ref b :: As) wc mc ms post wf) (G : GoodIn Ts (wsV own index q.1 y wsl)) (hy : YOk y n) (hyc : y.cls = q.1) (hw : wsl = .code y bytes maxL ret :: wsl') (hrc : rm.cells = mc) (hrs : rm.slots = ms) (hR : rm.frames + 1 ≤ R.frames ∧ 8 + (maxL + 11) + rm.locals ≤ R.locals) (isC isR : List Nat) (hnC : va_nd isC = true) (hC : isC.map (fun i => ws[i]?) = wc.map some) (hnR : va_nd isR = true) (hdis : ∀ i ∈ isR, i ∉ isC) (hRr : isR.map (fun i => ws[i]?) = (isR.filterMap (fun i => ws[i]?)).map some) (hq : vwCl[ci]? = some q) (he : wc[0]? = some (b, .inr (ci, fs)))
    (hst : st0 = As.reverse ++ .ref b :: rest) (hAn : As.length = n) (hls : ls.size = nL) (hrm : (rest.map fun v => v.category).sum ≤ 8) (hdg : decode cc pc = .ok (.invokevirtual index, 3)) (hf : cells + mc ≤ R.cells ∧ slots + ms ≤ R.slots)
    (kk : ∀ (r : Int32) (u : S) (H1 : Heap) (locs1 : List Loc), post r u → va_P g.1 vwCl (isR.filterMap (fun i => ws[i]?) ++ wf u) H1 → va_D A (isR.filterMap (fun i => ws[i]?) ++ wf u) → va_S A H0 H1 locs1 → W p l e R s m args below meth c H1 locs1 (cells + mc) (slots + ms) Q (F0 m (pc + 3) ls (.int r :: rest))) : W p l e R s m args below meth c H locs cells slots Q (F0 m pc ls st0) := by
  have pre := gpre hP hD hK hN isC hnC hC (.ref b :: As)
  have hPw : va_P g.1 vwCl wc H := by
    have hf : isC.filterMap (fun i => ws[i]?) = wc := by
      have h2 : (isC.map (fun i => ws[i]?)).filterMap id = (wc.map some).filterMap id := by rw [hC]
      simpa [List.filterMap_map, Function.comp_def] using h2
    exact hP.sub isC hf
  exact gck_i (va_runV F M (cwV n F.2.2.2.2 G hw hrc hrs ⟨hyc, hy⟩ hR) ⟨gP_blind _, va_recv hK hPw hq he, pre⟩ rfl hAn hls hst (lv_room hrm) hdg hf) hP hD hS hA isC isR hC hnR hdis hRr kk
theorem gcS_i {post : Int32 → S → Prop} (F : CallFix p m c cc nL s args Ts own) (hK : va_K g.1 vwCl (tyL g) s) (hN : NW s) (hP : va_P g.1 vwCl ws H) (hD : va_D A ws) (hS : va_S A H0 H locs) (hA : ∀ q, H0.size ≤ q → A q)
    (M : Mi l y wsl rm g H.size As wc mc ms post wf) (G : GoodIn Ts (va_wsS own index y wsl)) (hy : YOk y n) (hw : wsl = .code y bytes maxL ret :: wsl') (hrc : rm.cells = mc) (hrs : rm.slots = ms) (hR : rm.frames + 1 ≤ R.frames ∧ 8 + (maxL + 11) + rm.locals ≤ R.locals) (isC isR : List Nat) (hnC : va_nd isC = true) (hC : isC.map (fun i => ws[i]?) = wc.map some) (hnR : va_nd isR = true) (hdis : ∀ i ∈ isR, i ∉ isC) (hRr : isR.map (fun i => ws[i]?) = (isR.filterMap (fun i => ws[i]?)).map some)
    (hst : st0 = As.reverse ++ rest) (hAn : As.length = n) (hls : ls.size = nL) (hrm : (rest.map fun v => v.category).sum ≤ 8) (hdg : decode cc pc = .ok (.invokestatic index, 3)) (hf : cells + mc ≤ R.cells ∧ slots + ms ≤ R.slots)
    (kk : ∀ (r : Int32) (u : S) (H1 : Heap) (locs1 : List Loc), post r u → va_P g.1 vwCl (isR.filterMap (fun i => ws[i]?) ++ wf u) H1 → va_D A (isR.filterMap (fun i => ws[i]?) ++ wf u) → va_S A H0 H1 locs1 → W p l e R s m args below meth c H1 locs1 (cells + mc) (slots + ms) Q (F0 m (pc + 3) ls (.int r :: rest))) : W p l e R s m args below meth c H locs cells slots Q (F0 m pc ls st0) := by
  have pre := gpre hP hD hK hN isC hnC hC As
  exact gck_i (va_runS F M (va_cwS n F.2.2.2.2 G hw hrc hrs hy hR) ⟨gP_blind _, pre⟩ rfl hAn hls hst (lv_room hrm) hdg hf) hP hD hS hA isC isR hC hnR hdis hRr kk
theorem gcV_l {post : Int64 → S → Prop} (F : CallFix p m c cc nL s args Ts own) (hK : va_K g.1 vwCl (tyL g) s) (hN : NW s) (hP : va_P g.1 vwCl ws H) (hD : va_D A ws) (hS : va_S A H0 H locs) (hA : ∀ q, H0.size ≤ q → A q)
    (M : Ml l y wsl rm g H.size (.ref b :: As) wc mc ms post wf) (G : GoodIn Ts (wsV own index q.1 y wsl)) (hy : YOk y n) (hyc : y.cls = q.1) (hw : wsl = .code y bytes maxL ret :: wsl') (hrc : rm.cells = mc) (hrs : rm.slots = ms) (hR : rm.frames + 1 ≤ R.frames ∧ 8 + (maxL + 11) + rm.locals ≤ R.locals) (isC isR : List Nat) (hnC : va_nd isC = true) (hC : isC.map (fun i => ws[i]?) = wc.map some) (hnR : va_nd isR = true) (hdis : ∀ i ∈ isR, i ∉ isC) (hRr : isR.map (fun i => ws[i]?) = (isR.filterMap (fun i => ws[i]?)).map some) (hq : vwCl[ci]? = some q) (he : wc[0]? = some (b, .inr (ci, fs)))
    (hst : st0 = As.reverse ++ .ref b :: rest) (hAn : As.length = n) (hls : ls.size = nL) (hrm : (rest.map fun v => v.category).sum ≤ 8) (hdg : decode cc pc = .ok (.invokevirtual index, 3)) (hf : cells + mc ≤ R.cells ∧ slots + ms ≤ R.slots)
    (kk : ∀ (r : Int64) (u : S) (H1 : Heap) (locs1 : List Loc), post r u → va_P g.1 vwCl (isR.filterMap (fun i => ws[i]?) ++ wf u) H1 → va_D A (isR.filterMap (fun i => ws[i]?) ++ wf u) → va_S A H0 H1 locs1 → W p l e R s m args below meth c H1 locs1 (cells + mc) (slots + ms) Q (F0 m (pc + 3) ls (.long r :: rest))) : W p l e R s m args below meth c H locs cells slots Q (F0 m pc ls st0) := by
  have pre := gpre hP hD hK hN isC hnC hC (.ref b :: As)
  have hPw : va_P g.1 vwCl wc H := by
    have hf : isC.filterMap (fun i => ws[i]?) = wc := by
      have h2 : (isC.map (fun i => ws[i]?)).filterMap id = (wc.map some).filterMap id := by rw [hC]
      simpa [List.filterMap_map, Function.comp_def] using h2
    exact hP.sub isC hf
  exact gck_l (va_runV F M (cwV n F.2.2.2.2 G hw hrc hrs ⟨hyc, hy⟩ hR) ⟨gP_blind _, va_recv hK hPw hq he, pre⟩ rfl hAn hls hst (lv_room hrm) hdg hf) hP hD hS hA isC isR hC hnR hdis hRr kk
theorem gcS_l {post : Int64 → S → Prop} (F : CallFix p m c cc nL s args Ts own) (hK : va_K g.1 vwCl (tyL g) s) (hN : NW s) (hP : va_P g.1 vwCl ws H) (hD : va_D A ws) (hS : va_S A H0 H locs) (hA : ∀ q, H0.size ≤ q → A q)
    (M : Ml l y wsl rm g H.size As wc mc ms post wf) (G : GoodIn Ts (va_wsS own index y wsl)) (hy : YOk y n) (hw : wsl = .code y bytes maxL ret :: wsl') (hrc : rm.cells = mc) (hrs : rm.slots = ms) (hR : rm.frames + 1 ≤ R.frames ∧ 8 + (maxL + 11) + rm.locals ≤ R.locals) (isC isR : List Nat) (hnC : va_nd isC = true) (hC : isC.map (fun i => ws[i]?) = wc.map some) (hnR : va_nd isR = true) (hdis : ∀ i ∈ isR, i ∉ isC) (hRr : isR.map (fun i => ws[i]?) = (isR.filterMap (fun i => ws[i]?)).map some)
    (hst : st0 = As.reverse ++ rest) (hAn : As.length = n) (hls : ls.size = nL) (hrm : (rest.map fun v => v.category).sum ≤ 8) (hdg : decode cc pc = .ok (.invokestatic index, 3)) (hf : cells + mc ≤ R.cells ∧ slots + ms ≤ R.slots)
    (kk : ∀ (r : Int64) (u : S) (H1 : Heap) (locs1 : List Loc), post r u → va_P g.1 vwCl (isR.filterMap (fun i => ws[i]?) ++ wf u) H1 → va_D A (isR.filterMap (fun i => ws[i]?) ++ wf u) → va_S A H0 H1 locs1 → W p l e R s m args below meth c H1 locs1 (cells + mc) (slots + ms) Q (F0 m (pc + 3) ls (.long r :: rest))) : W p l e R s m args below meth c H locs cells slots Q (F0 m pc ls st0) := by
  have pre := gpre hP hD hK hN isC hnC hC As
  exact gck_l (va_runS F M (va_cwS n F.2.2.2.2 G hw hrc hrs hy hR) ⟨gP_blind _, pre⟩ rfl hAn hls hst (lv_room hrm) hdg hf) hP hD hS hA isC isR hC hnR hdis hRr kk
theorem gcV_v {post : S → Prop} (F : CallFix p m c cc nL s args Ts own) (hK : va_K g.1 vwCl (tyL g) s) (hN : NW s) (hP : va_P g.1 vwCl ws H) (hD : va_D A ws) (hS : va_S A H0 H locs) (hA : ∀ q, H0.size ≤ q → A q)
    (M : Mv l y wsl rm g H.size (.ref b :: As) wc mc ms post wf) (G : GoodIn Ts (wsV own index q.1 y wsl)) (hy : YOk y n) (hyc : y.cls = q.1) (hw : wsl = .code y bytes maxL ret :: wsl') (hrc : rm.cells = mc) (hrs : rm.slots = ms) (hR : rm.frames + 1 ≤ R.frames ∧ 8 + (maxL + 11) + rm.locals ≤ R.locals) (isC isR : List Nat) (hnC : va_nd isC = true) (hC : isC.map (fun i => ws[i]?) = wc.map some) (hnR : va_nd isR = true) (hdis : ∀ i ∈ isR, i ∉ isC) (hRr : isR.map (fun i => ws[i]?) = (isR.filterMap (fun i => ws[i]?)).map some) (hq : vwCl[ci]? = some q) (he : wc[0]? = some (b, .inr (ci, fs)))
    (hst : st0 = As.reverse ++ .ref b :: rest) (hAn : As.length = n) (hls : ls.size = nL) (hrm : (rest.map fun v => v.category).sum ≤ 8) (hdg : decode cc pc = .ok (.invokevirtual index, 3)) (hf : cells + mc ≤ R.cells ∧ slots + ms ≤ R.slots)
    (kk : ∀ (u : S) (H1 : Heap) (locs1 : List Loc), post u → va_P g.1 vwCl (isR.filterMap (fun i => ws[i]?) ++ wf u) H1 → va_D A (isR.filterMap (fun i => ws[i]?) ++ wf u) → va_S A H0 H1 locs1 → W p l e R s m args below meth c H1 locs1 (cells + mc) (slots + ms) Q (F0 m (pc + 3) ls rest)) : W p l e R s m args below meth c H locs cells slots Q (F0 m pc ls st0) := by
  have pre := gpre hP hD hK hN isC hnC hC (.ref b :: As)
  have hPw : va_P g.1 vwCl wc H := by
    have hf : isC.filterMap (fun i => ws[i]?) = wc := by
      have h2 : (isC.map (fun i => ws[i]?)).filterMap id = (wc.map some).filterMap id := by rw [hC]
      simpa [List.filterMap_map, Function.comp_def] using h2
    exact hP.sub isC hf
  exact gck_v (va_runV F M (cwV n F.2.2.2.2 G hw hrc hrs ⟨hyc, hy⟩ hR) ⟨gP_blind _, va_recv hK hPw hq he, pre⟩ rfl hAn hls hst (lv_room hrm) hdg hf) hP hD hS hA isC isR hC hnR hdis hRr kk
theorem gcS_v {post : S → Prop} (F : CallFix p m c cc nL s args Ts own) (hK : va_K g.1 vwCl (tyL g) s) (hN : NW s) (hP : va_P g.1 vwCl ws H) (hD : va_D A ws) (hS : va_S A H0 H locs) (hA : ∀ q, H0.size ≤ q → A q)
    (M : Mv l y wsl rm g H.size As wc mc ms post wf) (G : GoodIn Ts (va_wsS own index y wsl)) (hy : YOk y n) (hw : wsl = .code y bytes maxL ret :: wsl') (hrc : rm.cells = mc) (hrs : rm.slots = ms) (hR : rm.frames + 1 ≤ R.frames ∧ 8 + (maxL + 11) + rm.locals ≤ R.locals) (isC isR : List Nat) (hnC : va_nd isC = true) (hC : isC.map (fun i => ws[i]?) = wc.map some) (hnR : va_nd isR = true) (hdis : ∀ i ∈ isR, i ∉ isC) (hRr : isR.map (fun i => ws[i]?) = (isR.filterMap (fun i => ws[i]?)).map some)
    (hst : st0 = As.reverse ++ rest) (hAn : As.length = n) (hls : ls.size = nL) (hrm : (rest.map fun v => v.category).sum ≤ 8) (hdg : decode cc pc = .ok (.invokestatic index, 3)) (hf : cells + mc ≤ R.cells ∧ slots + ms ≤ R.slots)
    (kk : ∀ (u : S) (H1 : Heap) (locs1 : List Loc), post u → va_P g.1 vwCl (isR.filterMap (fun i => ws[i]?) ++ wf u) H1 → va_D A (isR.filterMap (fun i => ws[i]?) ++ wf u) → va_S A H0 H1 locs1 → W p l e R s m args below meth c H1 locs1 (cells + mc) (slots + ms) Q (F0 m (pc + 3) ls rest)) : W p l e R s m args below meth c H locs cells slots Q (F0 m pc ls st0) := by
  have pre := gpre hP hD hK hN isC hnC hC As
  exact gck_v (va_runS F M (va_cwS n F.2.2.2.2 G hw hrc hrs hy hR) ⟨gP_blind _, pre⟩ rfl hAn hls hst (lv_room hrm) hdg hf) hP hD hS hA isC isR hC hnR hdis hRr kk
theorem gcI_v {post : S → Prop} (F : CallFix p m c cc nL s args Ts own) (hK : va_K g.1 vwCl (tyL g) s) (hN : NW s) (hP : va_P g.1 vwCl ws H) (hD : va_D A ws) (hS : va_S A H0 H locs) (hA : ∀ q, H0.size ≤ q → A q)
    (M : Mv l y wsl rm g H.size (.ref b :: As) wc mc ms post wf) (G : GoodIn Ts wsl) (hy : YOk y n) (hy1 : y.name = "<init>") (hini : (Cond.initialized y.cls).before args s = true) (hl : (Cond.methodLink own index y).before args s = true) (hin : (Cond.instanceMethod y).before args s = true) (hw : wsl = .code y bytes maxL none :: wsl') (hrc : rm.cells = mc) (hrs : rm.slots = ms) (hR : rm.frames + 1 ≤ R.frames ∧ 8 + (maxL + 11) + rm.locals ≤ R.locals) (isC isR : List Nat) (hnC : va_nd isC = true) (hC : isC.map (fun i => ws[i]?) = wc.map some) (hnR : va_nd isR = true) (hdis : ∀ i ∈ isR, i ∉ isC) (hRr : isR.map (fun i => ws[i]?) = (isR.filterMap (fun i => ws[i]?)).map some)
    (hst : st0 = As.reverse ++ .ref b :: rest) (hAn : As.length = n) (hls : ls.size = nL) (hrm : (rest.map fun v => v.category).sum ≤ 8) (hdg : decode cc pc = .ok (.invokespecial index, 3)) (hf : cells + mc ≤ R.cells ∧ slots + ms ≤ R.slots)
    (kk : ∀ (u : S) (H1 : Heap) (locs1 : List Loc), post u → va_P g.1 vwCl (isR.filterMap (fun i => ws[i]?) ++ wf u) H1 → va_D A (isR.filterMap (fun i => ws[i]?) ++ wf u) → va_S A H0 H1 locs1 → W p l e R s m args below meth c H1 locs1 (cells + mc) (slots + ms) Q (F0 m (pc + 3) ls rest)) : W p l e R s m args below meth c H locs cells slots Q (F0 m pc ls st0) := by
  have pre := gpre hP hD hK hN isC hnC hC (.ref b :: As)
  exact gck_v (va_runI F M (cwI n F.2.2.2.2 G hw hrc hrs hini hl hin hy1 hy hR) ⟨gP_blind _, pre⟩ rfl hAn hls hst (lv_room hrm) hdg hf) hP hD hS hA isC isR hC hnR hdis hRr kk
theorem gcIN_v {post : S → Prop} (F : CallFix p m c cc nL s args Ts own) (hK : va_K g.1 vwCl (tyL g) s) (hN : NW s) (hP : va_P g.1 vwCl ws H) (hD : va_D A ws) (hS : va_S A H0 H locs) (hA : ∀ q, H0.size ≤ q → A q)
    (M : Mv l y wsl rm g H.size (.ref b :: As) wc mc ms post wf) (G : GoodIn Ts wsl) (hy : YOk y n) (hy1 : y.name = "<init>") (hini : (Cond.initialized y.cls).before args s = true) (hl : va_Nw (.methodLinkNest own index y host) s) (hin : (Cond.instanceMethod y).before args s = true) (hw : wsl = .code y bytes maxL none :: wsl') (hrc : rm.cells = mc) (hrs : rm.slots = ms) (hR : rm.frames + 1 ≤ R.frames ∧ 8 + (maxL + 11) + rm.locals ≤ R.locals) (isC isR : List Nat) (hnC : va_nd isC = true) (hC : isC.map (fun i => ws[i]?) = wc.map some) (hnR : va_nd isR = true) (hdis : ∀ i ∈ isR, i ∉ isC) (hRr : isR.map (fun i => ws[i]?) = (isR.filterMap (fun i => ws[i]?)).map some)
    (hst : st0 = As.reverse ++ .ref b :: rest) (hAn : As.length = n) (hls : ls.size = nL) (hrm : (rest.map fun v => v.category).sum ≤ 8) (hdg : decode cc pc = .ok (.invokespecial index, 3)) (hf : cells + mc ≤ R.cells ∧ slots + ms ≤ R.slots)
    (kk : ∀ (u : S) (H1 : Heap) (locs1 : List Loc), post u → va_P g.1 vwCl (isR.filterMap (fun i => ws[i]?) ++ wf u) H1 → va_D A (isR.filterMap (fun i => ws[i]?) ++ wf u) → va_S A H0 H1 locs1 → W p l e R s m args below meth c H1 locs1 (cells + mc) (slots + ms) Q (F0 m (pc + 3) ls rest)) : W p l e R s m args below meth c H locs cells slots Q (F0 m pc ls st0) := by
  have pre := gpre hP hD hK hN isC hnC hC (.ref b :: As)
  exact gck_v (va_runIN F M ⟨va_cnB n F.2.2.2.2 G hw hrc hrs hl hini hy hR, hy1, hin⟩ ⟨gP_blind _, pre⟩ rfl hAn hls hst (lv_room hrm) hdg hf) hP hD hS hA isC isR hC hnR hdis hRr kk
theorem gp_blind (av : List Value) : FrameBlind (va_Pc av (fun _ => True)) := fun _ _ _ _ q => ⟨q.1, trivial⟩
theorem gcP {v : Int32} (F : CallFix p m c cc nL s args Ts own) (M : Cp l y wsl rm As v) (G : GoodIn Ts (va_wsS own index y wsl)) (hy : YOk y n) (hw : wsl = .code y bytes maxL ret :: wsl') (hrc : rm.cells = 0) (hrs : rm.slots = 0) (hR : rm.frames + 1 ≤ R.frames ∧ 8 + (maxL + 11) + rm.locals ≤ R.locals)
    (hst : st0 = As.reverse ++ rest) (hAn : As.length = n) (hls : ls.size = nL) (hrm : (rest.map fun v => v.category).sum ≤ 8) (hdg : decode cc pc = .ok (.invokestatic index, 3)) (hf : cells + 0 ≤ R.cells ∧ slots + 0 ≤ R.slots)
    (kk : W p l e R s m args below meth c H locs cells slots Q (F0 m (pc + 3) ls (.int v :: rest))) : W p l e R s m args below meth c H locs cells slots Q (F0 m pc ls st0) :=
  vp_callSi (va_Run.run (va_runS F M (va_cwS n F.2.2.2.2 G hw hrc hrs hy hR) ⟨gp_blind _, fun _ _ _ => ⟨rfl, trivial⟩⟩ rfl hAn hls hst (lv_room hrm) hdg hf)) (fun r hr => by subst hr; exact kk)
theorem gcPN {v : Int32} (F : CallFix p m c cc nL s args Ts own) (M : Cp l y wsl rm As v) (G : GoodIn Ts wsl) (hy : YOk y n) (hini : (Cond.initialized y.cls).before args s = true) (hl : va_Nw (.methodLinkNest own index y host) s) (hstt : (Cond.static y).before args s = true) (hw : wsl = .code y bytes maxL ret :: wsl') (hrc : rm.cells = 0) (hrs : rm.slots = 0) (hR : rm.frames + 1 ≤ R.frames ∧ 8 + (maxL + 11) + rm.locals ≤ R.locals)
    (hst : st0 = As.reverse ++ rest) (hAn : As.length = n) (hls : ls.size = nL) (hrm : (rest.map fun v => v.category).sum ≤ 8) (hdg : decode cc pc = .ok (.invokestatic index, 3)) (hf : cells + 0 ≤ R.cells ∧ slots + 0 ≤ R.slots)
    (kk : W p l e R s m args below meth c H locs cells slots Q (F0 m (pc + 3) ls (.int v :: rest))) : W p l e R s m args below meth c H locs cells slots Q (F0 m pc ls st0) :=
  vp_callSi (va_Run.run (va_runSN F M ⟨va_cnB n F.2.2.2.2 G hw hrc hrs hl hini hy hR, hstt, trivial⟩ ⟨gp_blind _, fun _ _ _ => ⟨rfl, trivial⟩⟩ rfl hAn hls hst (lv_room hrm) hdg hf)) (fun r hr => by subst hr; exact kk)
end GCS
theorem gMet_i {S : Type} {l : Launch} {y : MethodName} {wsl wsl' : List Cond} {rm : Room} {g : GT} {sz : Nat} {av : List Value} {w0 : va_W} {mc ms : Nat} {post : Int32 → S → Prop} {wf : S → va_W} {cc : ByteArray} {maxL : Nat} {ret : Option FieldType} (hy : plainName y.cls = true) (hw : wsl = .code y cc maxL ret :: wsl') (hn : (lg_sl av).length ≤ maxL)
    (body : ∀ (p : Program) (e : Env) (s : State) (m : MethodId) (args : Array Value) (below : List Frame) (meth : Method) (c : Code) (A : Nat → Prop), p.tables.exec = Jvm.exec → c.code = cc → meth.sig.returnType = ret → CallFix p m c cc maxL s args wsl y.cls → meth.locks = false → meth.name = y.name → va_K g.1 vwCl (tyL g) s → NW s → (∀ q, s.heap.size ≤ q → A q) → ∀ (H : Heap) (locs : List Loc), va_P g.1 vwCl w0 H → va_D A w0 → va_S A s.heap H locs → ∀ ls : Array Slot, lv_has ls maxL (lv_args 0 av) → W p l e (headSpec wsl rm).room s m args below meth c H locs 0 0 (MQ below (va_Qi post (fun u t => gB g (wf u) A t) A) args s mc ms A) (F0 m 0 ls [])) : Mi l y wsl rm g sz av w0 mc ms post wf := by
  refine Met.ofW (cc := cc) (maxL := maxL) (ret := ret) hy hw ?_
  intro p e s m args below meth c s₁ B hml hv
  obtain ⟨rfl, hsz, hP, hK, hD0, hN⟩ := hv
  subst hsz
  have hD := hD0.self (sz := s.heap.size)
  have hl := lv_entry av (n := maxL) hn
  rw [lg_entry_eq]
  exact body p e s m _ below meth c _ B.exec B.bytes B.returns ⟨B.exec, B.bytes, hml, findClass_of_methodNamed B.named, atoms_spec (ws := wsl) B.pre⟩ B.notSynchronized (name_of_methodNamed B.named B.method).1 hK hN (fun q h => Or.inr h) s.heap [] hP hD va_S.rf _ hl
theorem gMet_l {S : Type} {l : Launch} {y : MethodName} {wsl wsl' : List Cond} {rm : Room} {g : GT} {sz : Nat} {av : List Value} {w0 : va_W} {mc ms : Nat} {post : Int64 → S → Prop} {wf : S → va_W} {cc : ByteArray} {maxL : Nat} {ret : Option FieldType} (hy : plainName y.cls = true) (hw : wsl = .code y cc maxL ret :: wsl') (hn : (lg_sl av).length ≤ maxL)
    (body : ∀ (p : Program) (e : Env) (s : State) (m : MethodId) (args : Array Value) (below : List Frame) (meth : Method) (c : Code) (A : Nat → Prop), p.tables.exec = Jvm.exec → c.code = cc → meth.sig.returnType = ret → CallFix p m c cc maxL s args wsl y.cls → meth.locks = false → meth.name = y.name → va_K g.1 vwCl (tyL g) s → NW s → (∀ q, s.heap.size ≤ q → A q) → ∀ (H : Heap) (locs : List Loc), va_P g.1 vwCl w0 H → va_D A w0 → va_S A s.heap H locs → ∀ ls : Array Slot, lv_has ls maxL (lv_args 0 av) → W p l e (headSpec wsl rm).room s m args below meth c H locs 0 0 (MQ below (va_Ql post (fun u t => gB g (wf u) A t) A) args s mc ms A) (F0 m 0 ls [])) : Ml l y wsl rm g sz av w0 mc ms post wf := by
  refine Met.ofW (cc := cc) (maxL := maxL) (ret := ret) hy hw ?_
  intro p e s m args below meth c s₁ B hml hv
  obtain ⟨rfl, hsz, hP, hK, hD0, hN⟩ := hv
  subst hsz
  have hD := hD0.self (sz := s.heap.size)
  have hl := lv_entry av (n := maxL) hn
  rw [lg_entry_eq]
  exact body p e s m _ below meth c _ B.exec B.bytes B.returns ⟨B.exec, B.bytes, hml, findClass_of_methodNamed B.named, atoms_spec (ws := wsl) B.pre⟩ B.notSynchronized (name_of_methodNamed B.named B.method).1 hK hN (fun q h => Or.inr h) s.heap [] hP hD va_S.rf _ hl
theorem gMet_v {S : Type} {l : Launch} {y : MethodName} {wsl wsl' : List Cond} {rm : Room} {g : GT} {sz : Nat} {av : List Value} {w0 : va_W} {mc ms : Nat} {post : S → Prop} {wf : S → va_W} {cc : ByteArray} {maxL : Nat} {ret : Option FieldType} (hy : plainName y.cls = true) (hw : wsl = .code y cc maxL ret :: wsl') (hn : (lg_sl av).length ≤ maxL)
    (body : ∀ (p : Program) (e : Env) (s : State) (m : MethodId) (args : Array Value) (below : List Frame) (meth : Method) (c : Code) (A : Nat → Prop), p.tables.exec = Jvm.exec → c.code = cc → meth.sig.returnType = ret → CallFix p m c cc maxL s args wsl y.cls → meth.locks = false → meth.name = y.name → va_K g.1 vwCl (tyL g) s → NW s → (∀ q, s.heap.size ≤ q → A q) → ∀ (H : Heap) (locs : List Loc), va_P g.1 vwCl w0 H → va_D A w0 → va_S A s.heap H locs → ∀ ls : Array Slot, lv_has ls maxL (lv_args 0 av) → W p l e (headSpec wsl rm).room s m args below meth c H locs 0 0 (MQ below (va_Qv post (fun u t => gB g (wf u) A t) A) args s mc ms A) (F0 m 0 ls [])) : Mv l y wsl rm g sz av w0 mc ms post wf := by
  refine Met.ofW (cc := cc) (maxL := maxL) (ret := ret) hy hw ?_
  intro p e s m args below meth c s₁ B hml hv
  obtain ⟨rfl, hsz, hP, hK, hD0, hN⟩ := hv
  subst hsz
  have hD := hD0.self (sz := s.heap.size)
  have hl := lv_entry av (n := maxL) hn
  rw [lg_entry_eq]
  exact body p e s m _ below meth c _ B.exec B.bytes B.returns ⟨B.exec, B.bytes, hml, findClass_of_methodNamed B.named, atoms_spec (ws := wsl) B.pre⟩ B.notSynchronized (name_of_methodNamed B.named B.method).1 hK hN (fun q h => Or.inr h) s.heap [] hP hD va_S.rf _ hl
theorem gMet_p {l : Launch} {y : MethodName} {wsl wsl' : List Cond} {rm : Room} {av : List Value} {v : Int32} {cc : ByteArray} {maxL : Nat} {ret : Option FieldType} (hy : plainName y.cls = true) (hw : wsl = .code y cc maxL ret :: wsl') (hn : (lg_sl av).length ≤ maxL)
    (body : ∀ (p : Program) (e : Env) (s : State) (m : MethodId) (args : Array Value) (below : List Frame) (meth : Method) (c : Code), p.tables.exec = Jvm.exec → c.code = cc → meth.sig.returnType = ret → CallFix p m c cc maxL s args wsl y.cls → meth.locks = false → ∀ ls : Array Slot, lv_has ls maxL (lv_args 0 av) → W p l e (headSpec wsl rm).room s m args below meth c s.heap [] 0 0 (MQ below (vp_Si (fun r => r = v)) args s 0 0 (fun _ => False)) (F0 m 0 ls [])) : Cp l y wsl rm av v := by
  refine Met.ofW (cc := cc) (maxL := maxL) (ret := ret) hy hw ?_
  intro p e s m args below meth c s₁ B hml hv
  obtain ⟨rfl, -⟩ := hv
  have hl := lv_entry av (n := maxL) hn
  rw [lg_entry_eq]
  exact body p e s m _ below meth c B.exec B.bytes B.returns ⟨B.exec, B.bytes, hml, findClass_of_methodNamed B.named, atoms_spec (ws := wsl) B.pre⟩ B.notSynchronized _ hl
section GRT
variable {p : Program} {l : Launch} {e : Env} {R : Room} {s : State} {m : MethodId} {args : Array Value} {below : List Frame} {meth : Method} {c : Code} {H : Heap} {locs : List Loc} {cells slots : Nat}
variable {cc : ByteArray} {pc : Nat} {ls : Array Slot} {g : GT} {A : Nat → Prop} {ws : va_W} {S : Type} {wf : S → va_W}
theorem r_iret {post : Int32 → S → Prop} {v : Int32} (hx : p.tables.exec = Jvm.exec) (hb : c.code = cc) (hr : meth.sig.returnType = some .int) (hlk : meth.locks = false) (hS : va_S A s.heap H locs) (u : S) (hw : post v u) (hP : va_P g.1 vwCl (wf u) H) (hD : va_D A (wf u)) (hdg : decode cc pc = .ok (.ireturn, 1)) :
    W p l e R s m args below meth c H locs cells slots (MQ below (va_Qi post (fun u t => gB g (wf u) A t) A) args s cells slots A) (F0 m pc ls [.int v]) :=
  W.iret hx hb hr (fun t ht _ => ⟨⟨v, u, rfl, hw, by rw [ht]; exact hP, hD⟩, hS.F ht⟩) hS.2.2 hdg hlk
theorem r_zret {post : Int32 → S → Prop} {v : Int32} (hx : p.tables.exec = Jvm.exec) (hb : c.code = cc) (hr : meth.sig.returnType = some .boolean) (hlk : meth.locks = false) (hS : va_S A s.heap H locs) (u : S) (hn : narrow .boolean (.int v) = .int v) (hw : post v u) (hP : va_P g.1 vwCl (wf u) H) (hD : va_D A (wf u)) (hdg : decode cc pc = .ok (.ireturn, 1)) :
    W p l e R s m args below meth c H locs cells slots (MQ below (va_Qi post (fun u t => gB g (wf u) A t) A) args s cells slots A) (F0 m pc ls [.int v]) :=
  W.zret hx hb hr hn (fun t ht _ => ⟨⟨v, u, rfl, hw, by rw [ht]; exact hP, hD⟩, hS.F ht⟩) hS.2.2 hdg hlk
theorem r_lret {post : Int64 → S → Prop} {v : Int64} (hx : p.tables.exec = Jvm.exec) (hb : c.code = cc) (hr : meth.sig.returnType = some .long) (hlk : meth.locks = false) (hS : va_S A s.heap H locs) (u : S) (hw : post v u) (hP : va_P g.1 vwCl (wf u) H) (hD : va_D A (wf u)) (hdg : decode cc pc = .ok (.lreturn, 1)) :
    W p l e R s m args below meth c H locs cells slots (MQ below (va_Ql post (fun u t => gB g (wf u) A t) A) args s cells slots A) (F0 m pc ls [.long v]) :=
  W.lret hx hb hr (fun t ht _ => ⟨⟨v, u, rfl, hw, by rw [ht]; exact hP, hD⟩, hS.F ht⟩) hS.2.2 hdg hlk
theorem r_vret {post : S → Prop} (hx : p.tables.exec = Jvm.exec) (hb : c.code = cc) (hr : meth.sig.returnType = none) (hlk : meth.locks = false) (hS : va_S A s.heap H locs) (u : S) (hw : post u) (hP : va_P g.1 vwCl (wf u) H) (hD : va_D A (wf u)) (hdg : decode cc pc = .ok (.return_, 1)) :
    W p l e R s m args below meth c H locs cells slots (MQ below (va_Qv post (fun u t => gB g (wf u) A t) A) args s cells slots A) (F0 m pc ls []) :=
  W.vret hx hb hr (fun t ht _ => ⟨⟨u, rfl, hw, by rw [ht]; exact hP, hD⟩, hS.F ht⟩) hS.2.2 hdg hlk
theorem r_pret {v v' : Int32} (hx : p.tables.exec = Jvm.exec) (hb : c.code = cc) (hr : meth.sig.returnType = some .int) (hlk : meth.locks = false) (hw : v = v') (hdg : decode cc pc = .ok (.ireturn, 1)) :
    W p l e R s m args below meth c s.heap [] cells slots (MQ below (vp_Si (fun r => r = v')) args s cells slots (fun _ => False)) (F0 m pc ls [.int v]) :=
  W.iret hx hb hr (fun t ht _ => ⟨v, rfl, hw, ht⟩) (fun _ h => by cases h) hdg hlk
theorem r_pzret {v v' : Int32} (hx : p.tables.exec = Jvm.exec) (hb : c.code = cc) (hr : meth.sig.returnType = some .boolean) (hlk : meth.locks = false) (hn : narrow .boolean (.int v) = .int v) (hw : v = v') (hdg : decode cc pc = .ok (.ireturn, 1)) :
    W p l e R s m args below meth c s.heap [] cells slots (MQ below (vp_Si (fun r => r = v')) args s cells slots (fun _ => False)) (F0 m pc ls [.int v]) :=
  W.zret hx hb hr hn (fun t ht _ => ⟨v, rfl, hw, ht⟩) (fun _ h => by cases h) hdg hlk
/-- a loop: at its head, for every state x of it with P x, its world and locals -/
theorem gloop {σ : Type} {Q : State → Prop} {H0 : Heap} {nL : Nat} {st : List Value} (μ : σ → Nat) (P : σ → Prop) (w : σ → va_W) (lv : σ → List (Nat × Value))
    (body : ∀ x, P x → (∀ x', P x' → μ x' < μ x → ∀ (H : Heap) (locs : List Loc) (ls : Array Slot), va_P g.1 vwCl (w x') H → va_D A (w x') → va_S A H0 H locs → lv_has ls nL (lv x') → W p l e R s m args below meth c H locs cells slots Q (F0 m pc ls st)) → ∀ (H : Heap) (locs : List Loc) (ls : Array Slot), va_P g.1 vwCl (w x) H → va_D A (w x) → va_S A H0 H locs → lv_has ls nL (lv x) → W p l e R s m args below meth c H locs cells slots Q (F0 m pc ls st))
    (x0 : σ) (h0 : P x0) {H : Heap} {locs : List Loc} {ls : Array Slot} (hP : va_P g.1 vwCl (w x0) H) (hD : va_D A (w x0)) (hS : va_S A H0 H locs) (hl : lv_has ls nL (lv x0)) : W p l e R s m args below meth c H locs cells slots Q (F0 m pc ls st) := by
  have all : ∀ n x, μ x < n → P x → ∀ (H : Heap) (locs : List Loc) (ls : Array Slot), va_P g.1 vwCl (w x) H → va_D A (w x) → va_S A H0 H locs → lv_has ls nL (lv x) → W p l e R s m args below meth c H locs cells slots Q (F0 m pc ls st) := by
    intro n
    induction n with
    | zero => intro x h; exact absurd h (Nat.not_lt_zero _)
    | succ n ih => exact fun x hm hx => body x hx (fun x' hx' hm' => ih x' (by omega) hx')
  exact all _ x0 (Nat.lt_succ_self _) h0 H locs ls hP hD hS hl
/-- a loop of a method without a world -/
theorem gloopP {σ : Type} {Q : State → Prop} {nL : Nat} {st : List Value} (μ : σ → Nat) (P : σ → Prop) (lv : σ → List (Nat × Value))
    (body : ∀ x, P x → (∀ x', P x' → μ x' < μ x → ∀ (ls : Array Slot), lv_has ls nL (lv x') → W p l e R s m args below meth c H locs cells slots Q (F0 m pc ls st)) → ∀ (ls : Array Slot), lv_has ls nL (lv x) → W p l e R s m args below meth c H locs cells slots Q (F0 m pc ls st))
    (x0 : σ) (h0 : P x0) {ls : Array Slot} (hl : lv_has ls nL (lv x0)) : W p l e R s m args below meth c H locs cells slots Q (F0 m pc ls st) := by
  have all : ∀ n x, μ x < n → P x → ∀ (ls : Array Slot), lv_has ls nL (lv x) → W p l e R s m args below meth c H locs cells slots Q (F0 m pc ls st) := by
    intro n
    induction n with
    | zero => intro x h; exact absurd h (Nat.not_lt_zero _)
    | succ n ih => exact fun x hm hx => body x hx (fun x' hx' hm' => ih x' (by omega) hx')
  exact all _ x0 (Nat.lt_succ_self _) h0 ls hl
end GRT
theorem r_extJ {g : GT} {A : Nat → Prop} {ws : va_W} {H : Heap} (hP : va_P g.1 vwCl ws H) (hD : va_D A ws) (q0 : Nat) {a n : Nat} {cA : ClassId} {f f' : Nat → Int64} (ha : ws[q0]? = some (a, .inl (cA, n, .inr (.inl f)))) (h : ∀ j, j < n → f j = f' j) : va_P g.1 vwCl (ws.set q0 (a, .inl (cA, n, .inr (.inl f')))) H ∧ va_D A (ws.set q0 (a, .inl (cA, n, .inr (.inl f')))) := by
  have e : ws.set q0 (a, .inl (cA, n, .inr (.inl f))) = ws := by
    apply List.ext_getElem?
    intro k
    rw [List.getElem?_set]
    by_cases z : q0 = k
    · subst z
      have b : q0 < ws.length := (List.getElem?_eq_some_iff.mp ha).1
      rw [if_pos rfl, if_pos b, ha]
    · rw [if_neg z]
  exact ⟨ws_same (E := .inl (cA, n, .inr (.inl f))) rfl (fun D cl H k => at_extJ h k) (by rw [e]; exact hP), ws_sameD (E := .inl (cA, n, .inr (.inl f))) rfl (by rw [e]; exact hD)⟩
section GNW
variable {p : Program} {l : Launch} {e : Env} {R : Room} {s : State} {m : MethodId} {args : Array Value} {below : List Frame} {meth : Method} {c : Code} {H : Heap} {locs : List Loc} {cells slots : Nat} {Q : State → Prop}
variable {cc : ByteArray} {pc : Nat} {ls : Array Slot} {rest : List Value} {g : GT} {A : Nat → Prop} {ws : va_W} {H0 : Heap}
theorem r_newI (hx : p.tables.exec = Jvm.exec) (hb : c.code = cc) (harr : (Cond.arrayClass .int).before args s = true) (hK : va_K g.1 vwCl (tyL g) s) (hP : va_P g.1 vwCl ws H) (hD : va_D A ws) (hS : va_S A H0 H locs) (hA : ∀ q, H0.size ≤ q → A q) {n : Int32} {N' : Nat} (hn : ¬ n < 0) (hN : n.toNatClampNeg = N') (hbytes : N' * componentBytes .int ≤ 536870912) (hcells : cells + 1 ≤ R.cells) (hslots : slots + N' ≤ R.slots) (hdg : decode cc pc = .ok (.newarray .int, 2))
    (kk : ∀ (q : Nat) (H : Heap), va_P g.1 vwCl (ws ++ [aI g q N' (fun _ => 0)]) H → va_D A (ws ++ [aI g q N' (fun _ => 0)]) → va_S A H0 H locs → W p l e R s m args below meth c H locs (cells + 1) (slots + N') Q (F0 m (pc + 2) ls (.ref q :: rest))) : W p l e R s m args below meth c H locs cells slots Q (F0 m pc ls (.int n :: rest)) :=
  va_newa hx hb (atype := .int) harr rfl hK hP hD hS hA (a0 := (N', (.inl (fun _ => 0)))) (fun _ => rfl) hn hN hbytes hcells hslots hdg (fun q cA H1 hK1 hP1 hD1 hS1 => by
    have h1 : s.vm.findClass ("[" ++ (.int : FieldType).toString) = some cA := (hK1.2 4 (cA, .int) rfl).2
    have h2 : s.vm.findClass ("[" ++ (.int : FieldType).toString) = some g.2.1 := (hK.2 0 (g.2.1, .int) rfl).2
    have e : cA = g.2.1 := Option.some.inj (h1.symm.trans h2)
    subst e
    exact kk q H1 hP1 hD1 hS1)
theorem r_newJ (hx : p.tables.exec = Jvm.exec) (hb : c.code = cc) (harr : (Cond.arrayClass .long).before args s = true) (hK : va_K g.1 vwCl (tyL g) s) (hP : va_P g.1 vwCl ws H) (hD : va_D A ws) (hS : va_S A H0 H locs) (hA : ∀ q, H0.size ≤ q → A q) {n : Int32} {N' : Nat} (hn : ¬ n < 0) (hN : n.toNatClampNeg = N') (hbytes : N' * componentBytes .long ≤ 536870912) (hcells : cells + 1 ≤ R.cells) (hslots : slots + N' ≤ R.slots) (hdg : decode cc pc = .ok (.newarray .long, 2))
    (kk : ∀ (q : Nat) (H : Heap), va_P g.1 vwCl (ws ++ [aJ g q N' (fun _ => 0)]) H → va_D A (ws ++ [aJ g q N' (fun _ => 0)]) → va_S A H0 H locs → W p l e R s m args below meth c H locs (cells + 1) (slots + N') Q (F0 m (pc + 2) ls (.ref q :: rest))) : W p l e R s m args below meth c H locs cells slots Q (F0 m pc ls (.int n :: rest)) :=
  va_newa hx hb (atype := .long) harr rfl hK hP hD hS hA (a0 := (N', (.inr (.inl (fun _ => 0))))) (fun _ => rfl) hn hN hbytes hcells hslots hdg (fun q cA H1 hK1 hP1 hD1 hS1 => by
    have h1 : s.vm.findClass ("[" ++ (.long : FieldType).toString) = some cA := (hK1.2 4 (cA, .long) rfl).2
    have h2 : s.vm.findClass ("[" ++ (.long : FieldType).toString) = some g.2.2.1 := (hK.2 1 (g.2.2.1, .long) rfl).2
    have e : cA = g.2.2.1 := Option.some.inj (h1.symm.trans h2)
    subst e
    exact kk q H1 hP1 hD1 hS1)
theorem r_newQ (hx : p.tables.exec = Jvm.exec) (hb : c.code = cc) {own : String} {index : Nat} (hown : s.vm.findClass own = some m.cls) (hcl : (Cond.classLink own index RX1).before args s = true) (hover : va_AO RX1 s) (hK : va_K g.1 vwCl (tyL g) s) (hP : va_P g.1 vwCl ws H) (hD : va_D A ws) (hS : va_S A H0 H locs) (hA : ∀ q, H0.size ≤ q → A q) {n : Int32} {N' : Nat} (hn : ¬ n < 0) (hN : n.toNatClampNeg = N') (hbytes : N' * 4 ≤ 536870912) (hcells : cells + 1 ≤ R.cells) (hslots : slots + N' ≤ R.slots) (hdg : decode cc pc = .ok (.anewarray index, 3))
    (kk : ∀ (q : Nat) (H : Heap), va_P g.1 vwCl (ws ++ [aQ g q N' (fun _ => none)]) H → va_D A (ws ++ [aQ g q N' (fun _ => none)]) → va_S A H0 H locs → W p l e R s m args below meth c H locs (cells + 1) (slots + N') Q (F0 m (pc + 3) ls (.ref q :: rest))) : W p l e R s m args below meth c H locs cells slots Q (F0 m pc ls (.int n :: rest)) :=
  va_newq hx hb hown hcl hover hK hP hD hS hA hn hN hbytes hcells hslots hdg (fun q cA H1 hK1 hP1 hD1 hS1 => by
    obtain ⟨_, _, _, _, _, h1⟩ := (hK1.2 4 (cA, .object RX1) rfl).2
    obtain ⟨_, _, _, _, _, h2⟩ := (hK.2 3 (g.2.2.2.2, .object RX1) rfl).2
    have e : cA = g.2.2.2.2 := Option.some.inj (h1.symm.trans h2)
    subst e
    exact kk q H1 hP1 hD1 hS1)
theorem r_aald (hx : p.tables.exec = Jvm.exec) (hb : c.code = cc) (hK : va_K g.1 vwCl (tyL g) s) (hP : va_P g.1 vwCl ws H) (q0 : Nat) {a n : Nat} {f : Nat → Option Nat} (ha : ws[q0]? = some (aQ g a n f)) {i : Int32} {v : Value} (hin : vp_in i n) (hv : va_rf (f i.toNatClampNeg) = v) (hdg : decode cc pc = .ok (.aaload, 1))
    (kk : W p l e R s m args below meth c H locs cells slots Q (F0 m (pc + 1) ls (v :: rest))) : W p l e R s m args below meth c H locs cells slots Q (F0 m pc ls (.int i :: .ref a :: rest)) := by
  subst hv
  exact va_aldq hx hb hK hP q0 3 ha rfl hin hdg kk
theorem r_copyi (hx : p.tables.exec = Jvm.exec) (hb : c.code = cc) (hml : c.maxLocals = ls.size) {own : String} {index : Nat} (hown : s.vm.findClass own = some m.cls) (hlink : (Cond.methodLink own index arraycopyName).before args s = true) (hnat : (Cond.native arraycopyName).before args s = true) (hstat : (Cond.static arraycopyName).before args s = true) (hini : (Cond.initialized "java/lang/System").before args s = true)
    (hK : va_K g.1 vwCl (tyL g) s) (hP : va_P g.1 vwCl ws H) (hD : va_D A ws) (hS : va_S A H0 H locs) (q0 q1 : Nat) {a a0 N : Nat} {f h : Nat → Int32} (ha0 : ws[q0]? = some (aI g a0 N f)) (ha1 : ws[q1]? = some (aI g a N h)) {n : Int32} (hn : ¬ n < 0) (hN : n.toNatClampNeg = N)
    (hframes : 1 ≤ R.frames) (hlocals : (rest.map fun v => v.category).sum + (nativeFrameWords "java/lang/System" "arraycopy" 5 + 11) ≤ R.locals) (hdg : decode cc pc = .ok (.invokestatic index, 3))
    (kk : ∀ (H : Heap) (locs : List Loc), va_P g.1 vwCl (ws.set q1 (aI g a N f)) H → va_D A (ws.set q1 (aI g a N f)) → va_S A H0 H locs → W p l e R s m args below meth c H locs cells slots Q (F0 m (pc + 3) ls rest)) : W p l e R s m args below meth c H locs cells slots Q (F0 m pc ls (.int n :: .int 0 :: .ref a :: .int 0 :: .ref a0 :: rest)) := by
  have z : (0 : Int32).toNatClampNeg = 0 := rfl
  refine va_copyi hx hb hml hown hlink hnat hstat hini hK hP hD hS q0 q1 0 0 (ty := .int) ha0 ha1 rfl rfl rfl (by decide) (by decide) hn (by rw [z, hN]; omega) (by rw [z, hN]; omega) (fun _ _ => rfl) hframes hlocals hdg (fun H1 locs1 hP1 hD1 hS1 => kk H1 locs1 (ws_same rfl (fun D cl H k => at_extI (fun j hj => ?_) k) hP1) (ws_sameD rfl hD1) hS1)
  rw [z, hN, pk_cpy_in (Nat.zero_le _) (by omega)]
  congr 1
  omega
end GNW
theorem sw_out {x : Int32} {hi : Int} (n : Nat) (hn : n < 2 ^ 31) (hh : hi + 1 = n) (h : ∀ k, k < n → ¬ x = nI k) : x.toInt < 0 ∨ hi < x.toInt := by
  by_cases a : x.toInt < 0
  · exact Or.inl a
  · by_cases b : hi < x.toInt
    · exact Or.inr b
    · exfalso
      have e : x = nI x.toInt.toNat := by
        apply Int32.toInt_inj.mp
        rw [nI_toInt (by omega)]
        omega
      exact h _ (by omega) e
theorem sw_ne {x y : Int32} {k : Int} (h : ¬ x = y) (hy : y.toInt = k) : ¬ k = x.toInt := fun z => h (Int32.toInt_inj.mp (by rw [hy, z]))
def bI (b : Bool) : Int32 := if b then 1 else 0
theorem bI_0 {b : Bool} (h : bI b = 0) : b = false := by cases b; rfl; exact absurd h (by decide)
theorem bI_1 {b : Bool} (h : ¬ bI b = 0) : b = true := by cases b; exact absurd rfl h; rfl
theorem bI_nar (b : Bool) : narrow .boolean (.int (bI b)) = .int (bI b) := by cases b <;> decide
def inB (v lo hi : Int32) : Bool := decide (lo ≤ v) && decide (v ≤ hi)
theorem inB_iff {v lo hi : Int32} : inB v lo hi = true ↔ lo.toInt ≤ v.toInt ∧ v.toInt ≤ hi.toInt := by
  unfold inB
  simp [Int32.le_iff_toInt_le]
theorem inB_nat {v : Int32} {hi : Int32} {N : Nat} (hN : hi.toInt + 1 = N) (h : inB v 0 hi = true) : ∃ j : Nat, j < N ∧ v = nI j := by
  obtain ⟨h1, h2⟩ := inB_iff.mp h
  have h3 : ¬ v < 0 := by rw [Int32.lt_iff_toInt_lt]; simpa using h1
  obtain ⟨j, hj, rfl⟩ := nI_of h3
  rw [nI_toInt hj] at h2
  exact ⟨j, by omega, rfl⟩
theorem inB_nI {j N : Nat} {hi : Int32} (hN : hi.toInt + 1 = N) (hj : j < 2 ^ 31) : inB (nI j) 0 hi = decide (j < N) := by
  have e := nI_toInt hj
  by_cases h : j < N
  · rw [decide_eq_true h, inB_iff, e]
    exact ⟨by simp, by omega⟩
  · rw [decide_eq_false h]
    cases z : inB (nI j) 0 hi with
    | false => rfl
    | true =>
      have := (inB_iff.mp z).2
      rw [e] at this
      omega
theorem bw_t {v lo hi : Int32} (h1 : ¬ v < lo) (h2 : ¬ hi < v) : (1 : Int32) = bI (inB v lo hi) := by
  rw [inB_iff.mpr ⟨Int32.le_iff_toInt_le.mp (Int32.not_lt.mp h1), Int32.le_iff_toInt_le.mp (Int32.not_lt.mp h2)⟩]; rfl
theorem inB_not {v lo hi : Int32} (h : ¬ (lo.toInt ≤ v.toInt ∧ v.toInt ≤ hi.toInt)) : inB v lo hi = false := by
  cases z : inB v lo hi with
  | false => rfl
  | true => exact absurd (inB_iff.mp z) h
theorem bw_l {v lo hi : Int32} (h : v < lo) : (0 : Int32) = bI (inB v lo hi) := by
  have := Int32.lt_iff_toInt_lt.mp h
  rw [inB_not (by omega)]; rfl
theorem bw_h {v lo hi : Int32} (h : hi < v) : (0 : Int32) = bI (inB v lo hi) := by
  have := Int32.lt_iff_toInt_lt.mp h
  rw [inB_not (by omega)]; rfl
theorem bw_t1 {v lo hi m : Int32} (hN : hi.toInt + 1 = m.toInt) (h1 : ¬ v < lo) (h2 : ¬ m ≤ v) : (1 : Int32) = bI (inB v lo hi) := by
  have h3 := Int32.lt_iff_toInt_lt.mp (Int32.not_le.mp h2)
  rw [inB_iff.mpr ⟨Int32.le_iff_toInt_le.mp (Int32.not_lt.mp h1), by omega⟩]; rfl
theorem bw_h1 {v lo hi m : Int32} (hN : hi.toInt + 1 = m.toInt) (h : m ≤ v) : (0 : Int32) = bI (inB v lo hi) := by
  have := Int32.le_iff_toInt_le.mp h
  rw [inB_not (by omega)]; rfl
theorem dI_t {P : Prop} [Decidable P] (h : P) : (1 : Int32) = bI (decide P) := by rw [decide_eq_true h]; rfl
theorem dI_f {P : Prop} [Decidable P] (h : ¬ P) : (0 : Int32) = bI (decide P) := by rw [decide_eq_false h]; rfl
def isInB (h t : Int32) : Bool := decide ((t >>> (h &&& 31)) &&& 1 = 1)
/-- an object of Close, of the reference: its rows by A, its numbers by I -/
def oC (A : Nat → Nat) (I : Nat → Int32) : List Value := [.ref (A 0), .ref (A 1), .ref (A 2), .ref (A 3), .ref (A 4), .ref (A 5), .ref (A 6), .int (I 7), .int (I 8), .int (I 9), .int (I 10), .int (I 11)]
/-- a row filled from its start on -/
def fF {α : Type} (f v : Nat → α) (i : Nat) : Nat → α := fun j => if j < i then v j else f j
theorem fF_0 {α : Type} {f v : Nat → α} {n : Nat} : ∀ j, j < n → f j = fF f v 0 j := fun j _ => by simp [fF]
theorem fF_n {α : Type} {f v : Nat → α} {n : Nat} : ∀ j, j < n → fF f v n j = v j := fun j h => by simp [fF, h]
theorem fF_s {f v : Nat → Int32} {i n : Nat} {k x : Int32} (hk : k.toNatClampNeg = i) (hx : x = v i) : ∀ j, j < n → upd (fF f v i) k.toNatClampNeg x j = fF f v (i + 1) j := by
  intro j _
  rw [hk, hx]
  unfold upd fF
  by_cases e : j = i
  · subst e; simp
  · rw [if_neg e]
    by_cases h : j < i
    · rw [if_pos h, if_pos (by omega)]
    · rw [if_neg h, if_neg (by omega)]
theorem fF_sJ {f v : Nat → Int64} {i n : Nat} {k : Int32} {x : Int64} (hk : k.toNatClampNeg = i) (hx : x = v i) : ∀ j, j < n → vp_updL (fF f v i) k.toNatClampNeg x j = fF f v (i + 1) j := by
  intro j _
  rw [hk, hx]
  unfold vp_updL fF
  by_cases e : j = i
  · subst e; simp
  · rw [if_neg e]
    by_cases h : j < i
    · rw [if_pos h, if_pos (by omega)]
    · rw [if_neg h, if_neg (by omega)]
/-- the numbers of a new Close -/
def iC0 : Nat → Int32 := fun k => if k = 8 then 10 else 0
def mkA (l : List Nat) : Nat → Nat := fun k => l.getD k 0
theorem neg6_ne {k : Nat} (h : k < 2 ^ 31) : ¬ (-6 : Int32) = nI k := by
  intro z
  have h2 := congrArg Int32.toInt z
  rw [nI_toInt h] at h2
  have h3 : (-6 : Int32).toInt = -6 := rfl
  omega
theorem beq_0 {i : Nat} (h : i < 10) : nI (2 ^ i - 1) ||| ((1 : Int32) <<< (nI i &&& 31)) = nI (2 ^ (i + 1) - 1) := by
  have k : ∀ i, i < 10 → nI (2 ^ i - 1) ||| ((1 : Int32) <<< (nI i &&& 31)) = nI (2 ^ (i + 1) - 1) := by decide
  exact k i h
/-- Integer.bitCount, as it counts -/
def bc1 (x : Int32) : Int32 := x - ((x.toUInt32 >>> ((1 : Int32).toUInt32 &&& Int32.toUInt32 31)).toInt32 &&& 1431655765)
def bc2 (x : Int32) : Int32 := (x &&& 858993459) + ((x.toUInt32 >>> ((2 : Int32).toUInt32 &&& Int32.toUInt32 31)).toInt32 &&& 858993459)
def bc3 (x : Int32) : Int32 := (x + (x.toUInt32 >>> ((4 : Int32).toUInt32 &&& Int32.toUInt32 31)).toInt32) &&& 252645135
def bc4 (x : Int32) : Int32 := x + (x.toUInt32 >>> ((8 : Int32).toUInt32 &&& Int32.toUInt32 31)).toInt32
def bc5 (x : Int32) : Int32 := x + (x.toUInt32 >>> ((16 : Int32).toUInt32 &&& Int32.toUInt32 31)).toInt32
def bcF (x : Int32) : Int32 := bc5 (bc4 (bc3 (bc2 (bc1 x)))) &&& 63
theorem bcF_0 : bcF 0 = 0 := by decide
theorem bcF_1023 : bcF 1023 = 10 := by decide
theorem bcF_pos (x : Int32) : ¬ bcF x < 0 := by
  obtain ⟨j, hj, e⟩ := pk_andE (bc5 (bc4 (bc3 (bc2 (bc1 x))))) (m := 63) 6 (by decide)
  unfold bcF
  rw [e]
  exact nI_pos (by omega)
def kdF (d : Nat) : Nat := if d < 3 then 1 else if d < 5 then 2 else if d = 5 then 3 else if d = 6 then 0 else 4
theorem kdF_lt (d : Nat) : kdF d < 5 := by unfold kdF; (repeat' split) <;> omega
def raF (k : Nat) (ht mo : Int32) : Int32 := if k = 0 then 0 else if k = 1 then 2 else if k = 2 then 1 else if k = 3 then (if 0 < ht then 0 else 3) else (if mo < 99 then 0 else 4)
theorem raF_12 {k : Nat} {ht mo : Int32} (h : raF k ht mo = 0) : k ≠ 1 ∧ k ≠ 2 := by
  constructor
  · rintro rfl
    exact absurd h (by show ¬ (2 : Int32) = 0; decide)
  · rintro rfl
    exact absurd h (by show ¬ (1 : Int32) = 0; decide)
theorem shr_and0 (x : Int32) : ((0 : Int32) >>> (x &&& 31)) &&& 1 = 0 := by
  have : (0 : Int32) >>> (x &&& 31) = 0 := by
    apply Int32.toBitVec_inj.mp
    simp
  rw [this]; rfl
theorem isIn_0 (x : Int32) : isInB x 0 = false := by
  unfold isInB
  rw [shr_and0]; rfl
theorem isIn_s {t : Nat} (h : t < 10) : isInB (nI t) ((0 : Int32) ||| ((1 : Int32) <<< (nI t &&& 31))) = true := by
  have k : ∀ t, t < 10 → isInB (nI t) ((0 : Int32) ||| ((1 : Int32) <<< (nI t &&& 31))) = true := by decide
  exact k t h
theorem nI_nB {j : Nat} (h : j < 10) : inB (nI j) 0 9 = true := (inB_nI (N := 10) (by decide) (by omega)).trans (decide_eq_true h)
theorem nI_pB {j : Nat} (h : j < 11) : inB (nI j) 0 10 = true := (inB_nI (N := 11) (by decide) (by omega)).trans (decide_eq_true h)
/-- what a tale fades into, any number -/
def fdF (f : Nat → Int32) (x : Int32) : Int32 := if inB x 0 9 = true then f x.toNatClampNeg else -6
def hfF (f1 f2 f3 : Nat → Int32) (j : Nat) (x : Int32) : Int32 := if x = 0 then f3 j else if x = 1 then f1 j else bI (decide (f2 j = 1))
def pfF (I : Nat → Int32) (x : Int32) : Int32 := if x = 0 then I 8 else if x = 1 then I 9 else if x = 2 then I 10 else I 11
theorem fdF_nI {t : Nat} (h : t < 10) : fdF (fun j => nI j) (nI t) = nI t := by
  unfold fdF
  rw [if_pos (nI_nB h), nI_clamp (by omega)]
theorem kd_c {d c r : Nat} (hd : d < 8) (h : nI d = nI c) (hc : c < 8) (hr : kdF c = r) : nI r = nI (kdF d) := by
  have e : d = c := (nI_eq (by omega) (by omega)).mp h
  rw [e, hr]
theorem kd_d {d : Nat} (hd : d < 8) (k0 : ¬ nI d = 0) (k1 : ¬ nI d = 1) (k2 : ¬ nI d = 2) (k3 : ¬ nI d = 3) (k4 : ¬ nI d = 4) (k5 : ¬ nI d = 5) (k6 : ¬ nI d = 6) : (4 : Int32) = nI (kdF d) := by
  have a0 : d ≠ 0 := fun z => k0 (by rw [z]; rfl)
  have a1 : d ≠ 1 := fun z => k1 (by rw [z]; rfl)
  have a2 : d ≠ 2 := fun z => k2 (by rw [z]; rfl)
  have a3 : d ≠ 3 := fun z => k3 (by rw [z]; rfl)
  have a4 : d ≠ 4 := fun z => k4 (by rw [z]; rfl)
  have a5 : d ≠ 5 := fun z => k5 (by rw [z]; rfl)
  have a6 : d ≠ 6 := fun z => k6 (by rw [z]; rfl)
  obtain rfl : d = 7 := by omega
  rfl
theorem ra_c {k c : Nat} {v ht mo : Int32} (hk : k < 5) (h : nI k = nI c) (hc : c < 5) (hr : v = raF c ht mo) : v = raF k ht mo := by
  have e : k = c := (nI_eq (by omega) (by omega)).mp h
  rw [e]; exact hr
theorem ra_d {k : Nat} {v ht mo : Int32} (hk : k < 5) (k0 : ¬ nI k = 0) (k1 : ¬ nI k = 1) (k2 : ¬ nI k = 2) (k3 : ¬ nI k = 3) (hr : v = raF 4 ht mo) : v = raF k ht mo := by
  have a0 : k ≠ 0 := fun z => k0 (by rw [z]; rfl)
  have a1 : k ≠ 1 := fun z => k1 (by rw [z]; rfl)
  have a2 : k ≠ 2 := fun z => k2 (by rw [z]; rfl)
  have a3 : k ≠ 3 := fun z => k3 (by rw [z]; rfl)
  obtain rfl : k = 4 := by omega
  exact hr
theorem ra_3f {ht mo : Int32} (h : ht ≤ 0) : (3 : Int32) = raF 3 ht mo := by
  show (3 : Int32) = if 0 < ht then 0 else 3
  rw [if_neg (Int32.not_lt.mpr h)]
theorem ra_3t {ht mo : Int32} (h : ¬ ht ≤ 0) : (0 : Int32) = raF 3 ht mo := by
  show (0 : Int32) = if 0 < ht then 0 else 3
  rw [if_pos (Int32.not_le.mp h)]
theorem ra_4f {ht mo : Int32} (h : 99 ≤ mo) : (4 : Int32) = raF 4 ht mo := by
  show (4 : Int32) = if mo < 99 then 0 else 4
  rw [if_neg (Int32.not_lt.mpr h)]
theorem ra_4t {ht mo : Int32} (h : ¬ 99 ≤ mo) : (0 : Int32) = raF 4 ht mo := by
  show (0 : Int32) = if mo < 99 then 0 else 4
  rw [if_pos (Int32.not_le.mp h)]
theorem up_ne {J : Nat → Int32} {a b : Nat} {x : Int32} (h : a ≠ b) : upd J a x b = J b := by
  unfold upd; rw [if_neg (Ne.symm h)]
theorem up_eq {J : Nat → Int32} {a : Nat} {x : Int32} : upd J a x a = x := by
  unfold upd; rw [if_pos rfl]
/-- least ways where there is no road -/
def lsF : Nat → Int32 := fun e => if e / 11 = e % 11 then 0 else 1000
def fG (f : Nat → Int32) (i j : Nat) : Nat → Int32 := fun e => if e < 11 * i then lsF e else if e < 11 * i + j then 1000 else f e
theorem fG_0 {f : Nat → Int32} {i n : Nat} : ∀ j, j < n → fF f lsF (11 * i) j = fG f i 0 j := by
  intro j _
  unfold fF fG
  by_cases h : j < 11 * i
  · rw [if_pos h, if_pos h]
  · rw [if_neg h, if_neg h, if_neg (by omega)]
theorem fG_s {f : Nat → Int32} {i j n : Nat} {k : Int32} (hk : k.toNatClampNeg = i * 11 + j) : ∀ e, e < n → upd (fG f i j) k.toNatClampNeg 1000 e = fG f i (j + 1) e := by
  intro e _
  rw [hk]
  unfold upd fG
  by_cases z : e = i * 11 + j
  · rw [if_pos z, if_neg (by omega), if_pos (by omega)]
  · rw [if_neg z]
    by_cases h : e < 11 * i
    · rw [if_pos h, if_pos h]
    · rw [if_neg h, if_neg h]
      by_cases h2 : e < 11 * i + j
      · rw [if_pos h2, if_pos (by omega)]
      · rw [if_neg h2, if_neg (by omega)]
theorem fG_d {f : Nat → Int32} {i j n : Nat} {k : Int32} (hk : k.toNatClampNeg = i * 11 + i) (hj : j = 11) (hi : i < 11) : ∀ e, e < n → upd (fG f i j) k.toNatClampNeg 0 e = fF f lsF (11 * (i + 1)) e := by
  intro e _
  subst hj
  rw [hk]
  unfold upd fG fF
  by_cases z : e = i * 11 + i
  · rw [if_pos z, if_pos (by omega)]
    unfold lsF
    rw [if_pos (by omega)]
  · rw [if_neg z]
    by_cases h : e < 11 * i
    · rw [if_pos h, if_pos (by omega)]
    · rw [if_neg h]
      by_cases h2 : e < 11 * i + 11
      · rw [if_pos h2, if_pos (by omega)]
        unfold lsF
        rw [if_neg (by omega)]
      · rw [if_neg h2, if_neg (by omega)]
theorem ls_tri {i j t : Nat} (hi : i < 11) (hj : j < 11) (ht : t < 11) : lsF (j * 11 + t) ≤ lsF (j * 11 + i) + lsF (i * 11 + t) := by
  have k : ∀ i, i < 11 → ∀ j, j < 11 → ∀ t, t < 11 → lsF (j * 11 + t) ≤ lsF (j * 11 + i) + lsF (i * 11 + t) := by decide +kernel
  exact k i hi j hj t ht
theorem ls_v {i j : Nat} (hi : i < 11) (hj : j < 11) : lsF (i * 11 + j) = if i = j then 0 else 1000 := by
  have k : ∀ i, i < 11 → ∀ j, j < 11 → lsF (i * 11 + j) = if i = j then 0 else 1000 := by decide +kernel
  exact k i hi j hj
theorem ls_10 {i : Nat} (hi : i < 10) : lsF (10 * 11 + i) = 1000 := by
  have k : ∀ i, i < 10 → lsF (10 * 11 + i) = 1000 := by decide +kernel
  exact k i hi
/-- how far it is from place to place without a road -/
def nrF (i j : Nat) : Int32 := if i = j then 0 else -6
theorem hw_f {i j : Nat} (h : (1000 : Int32) ≤ if i = j then 0 else 1000) : (-6 : Int32) = nrF i j := by
  unfold nrF
  by_cases e : i = j
  · rw [if_pos e] at h; exact absurd h (by decide)
  · rw [if_neg e]
theorem hw_t {i j : Nat} (h : ¬ (1000 : Int32) ≤ if i = j then 0 else 1000) : (if i = j then (0 : Int32) else 1000) = nrF i j := by
  unfold nrF
  by_cases e : i = j
  · rw [if_pos e, if_pos e]
  · rw [if_neg e] at h; exact absurd (by decide) h
theorem cold_h {t : Nat} (h : t < 100) : ¬ (45 : Int32) < nI t - 1000 := by
  have k : ∀ t, t < 100 → ¬ (45 : Int32) < nI t - 1000 := by decide +kernel
  exact k t h
theorem isIn_K {j : Nat} (h : j < 10) : isInB (nI j) 1024 = false := by
  have k : ∀ j, j < 10 → isInB (nI j) 1024 = false := by decide +kernel
  exact k j h
theorem and_0 (x : Int32) : (0 : Int32) &&& x = 0 := by
  apply Int32.toBitVec_inj.mp
  simp
def fdT : Nat → Int32 := fun e => nI (e / 41)
def twF : Nat → Int32 := fun k => nI (10 * (k / 5) + k % 5 + 1)
def pkF (x : Int32) : Int32 := if inB x 0 49 = true then twF x.toNatClampNeg else -6
theorem fdT_v {i t : Nat} (h : t < 41) : nI i = fdT (41 * i + t) := by
  unfold fdT
  congr 1
  omega
theorem tw_v {i t n : Nat} (h : n + 1 = 5 * i + t) (h1 : 1 ≤ t) (h5 : t ≤ 5) : nI (10 * i + t) = twF n := by
  unfold twF
  congr 1
  omega
theorem tb_v {t q : Nat} (hq : q < 41) (ht : t < 10) : fdT (nI (t * 41 + q)).toNatClampNeg = nI t := by
  rw [nI_clamp (by omega)]
  unfold fdT
  congr 1
  omega
theorem pkF_nI {i : Nat} (h : i < 50) : pkF (nI i) = nI (10 * (i / 5) + i % 5 + 1) := by
  unfold pkF
  rw [if_pos ((inB_nI (N := 50) (by decide) (by omega)).trans (decide_eq_true h)), nI_clamp (by omega)]
  rfl
def lfF (i : Nat) : Nat → Int32 := fun e => nI (if i ≤ 5 * e then 0 else if 5 * e + 5 ≤ i then 5 else i - 5 * e)
def msF (i : Nat) : Nat := if i < 5 then i else 5
theorem lf_0 : ∀ j, j < 10 → (0 : Int32) = lfF 0 j := by
  intro j _
  unfold lfF
  rw [if_pos (Nat.zero_le _)]
  rfl
theorem lf_v {i : Nat} : lfF i (i / 5) = nI (i % 5) := by
  unfold lfF
  congr 1
  by_cases h : i ≤ 5 * (i / 5)
  · rw [if_pos h]; omega
  · rw [if_neg h, if_neg (by omega)]; omega
theorem lf_w {i : Nat} : lfF (i + 1) (i / 5) = nI (i % 5 + 1) := by
  unfold lfF
  congr 1
  rw [if_neg (by omega)]
  by_cases h : 5 * (i / 5) + 5 ≤ i + 1
  · rw [if_pos h]; omega
  · rw [if_neg h]; omega
theorem lf_s {i : Nat} (h : i < 50) : ∀ j, j < 10 → upd (lfF i) (nI (i / 5)).toNatClampNeg (nI (i % 5 + 1)) j = lfF (i + 1) j := by
  intro j _
  rw [nI_clamp (by omega)]
  unfold upd
  by_cases e : j = i / 5
  · rw [if_pos e, e, lf_w]
  · rw [if_neg e]
    unfold lfF
    congr 1
    by_cases h1 : i ≤ 5 * j
    · rw [if_pos h1, if_pos (by omega)]
    · rw [if_neg h1, if_pos (by omega), if_neg (by omega), if_pos (by omega)]
theorem ms_v {i : Nat} (h : i < 50) : (if nI (msF i) < nI (i % 5 + 1) then nI (i % 5 + 1) else nI (msF i)) = nI (msF (i + 1)) := by
  have k : ∀ i, i < 50 → (if nI (msF i) < nI (i % 5 + 1) then nI (i % 5 + 1) else nI (msF i)) = nI (msF (i + 1)) := by decide +kernel
  exact k i h
end
section
theorem kJ7_fill_53178 : YOk yJ7_fill_53178 2 := by decide +kernel
theorem kX0_init : YOk yX0_init 0 := by decide +kernel
theorem kX1_init : YOk yX1_init 0 := by decide +kernel
theorem kX2_init : YOk yX2_init 0 := by decide +kernel
theorem kX3_init : YOk yX3_init 0 := by decide +kernel
theorem kX4_init : YOk yX4_init 0 := by decide +kernel
theorem kX5_init : YOk yX5_init 0 := by decide +kernel
theorem kX6_init : YOk yX6_init 0 := by decide +kernel
def mkE (l : List (List Nat)) : Nat → Nat → Nat := fun i j => (l.getD i []).getD j 0
def iM0 : Nat → Int32 := fun k => if k = 5 then 10 else 0
set_option maxHeartbeats 4000000 in
set_option maxRecDepth 100000 in
theorem c_J7_fill_53178 (l : Launch) (g : GT) (sz : Nat) (aζ nζ : Nat) (fζ : Nat → Int32) (vζ : Int32) (hnζ : nζ < 2 ^ 31) : Cv l yJ7_fill_53178 wsJ7_fill_53178 { frames := 0, cells := 0, slots := 0, locals := 0 } g sz [.ref aζ, .int vζ] [aI g aζ nζ fζ] [aI g aζ nζ (fun _ => vζ)] := by
  refine gMet_v (cc := cJ7_fill_53178) (maxL := 4) (ret := none) (by decide) rfl (Nat.le_of_ble_eq_true rfl) ?_
  intro p e s m args below meth c Z hx hb hr F hlk hnm hK hN hA H locs hP hD hS ls hl
  have hl : lv_has ls 4 [(0, .ref aζ), (1, .int vζ)] := hl
  have F : CallFix p m c cJ7_fill_53178 4 s args wsJ7_fill_53178 RJ7 := F
  have hts := F.2.2.2.2
  have hown : s.vm.findClass RJ7 = some m.cls := F.2.2.2.1
  refine lv_iconst (v := 0) hx hb dJ7_fill_53178_0 (by decide) ?_
  refine lv_istore_n (lv' := [(2, .int 0), (0, .ref aζ), (1, .int vζ)]) hx hb dJ7_fill_53178_1 rfl hl (by decide) rfl (fun ls hl => ?_)
  refine lv_aload_n hx hb dJ7_fill_53178_2 rfl (lv_at hl 1 rfl) ?_
  refine va_alen (v := nI nζ) hx hb hK hP 0 0 rfl rfl rfl dJ7_fill_53178_3 ?_
  refine lv_istore_n (lv' := [(3, .int (nI nζ)), (2, .int 0), (0, .ref aζ), (1, .int vζ)]) hx hb dJ7_fill_53178_4 rfl hl (by decide) rfl (fun ls hl => ?_)
  obtain ⟨hP, hD⟩ := r_extI hP hD 0 rfl (f' := fF fζ (fun _ => vζ) 0) fF_0
  have hP : va_P g.1 vwCl [aI g aζ nζ (fF fζ (fun _ => vζ) 0)] H := hP
  have hD : va_D Z [aI g aζ nζ (fF fζ (fun _ => vζ) 0)] := hD
  refine gloop (σ := Nat) (fun u0 => nζ - u0) (fun u0 => u0 ≤ nζ) (fun u0 => [aI g aζ nζ (fF fζ (fun _ => vζ) u0)]) (fun u0 => [(3, .int (nI nζ)), (2, .int (nI u0)), (0, .ref aζ), (1, .int vζ)]) ?_ 0 (by first | omega | decide | rfl) (hP.sub [0] rfl) (hD.sub [0] (by decide) rfl) hS (lv_sub hl [0, 1, 2, 3] rfl)
  rintro iζ hiζ ih5 H locs ls hP hD hS hl
  have hiζ : iζ ≤ nζ := hiζ
  have hP : va_P g.1 vwCl [aI g aζ nζ (fF fζ (fun _ => vζ) iζ)] H := hP
  have hD : va_D Z [aI g aζ nζ (fF fζ (fun _ => vζ) iζ)] := hD
  have hl : lv_has ls 4 [(3, .int (nI nζ)), (2, .int (nI iζ)), (0, .ref aζ), (1, .int vζ)] := hl
  refine lv_iload_n hx hb dJ7_fill_53178_5 rfl (lv_at hl 1 rfl) ?_
  refine lv_iload_n hx hb dJ7_fill_53178_6 rfl (lv_at hl 0 rfl) ?_
  refine lv_icmp_ge (tgt := 20) hx hb dJ7_fill_53178_7 (by decide) (fun c_1 => ?_) (fun c_1 => ?_)
  · have c_1 : nζ ≤ iζ := (nI_leI (a := nζ) (b := iζ) (by omega) (by omega)).mp c_1
    obtain ⟨hP, hD⟩ := r_extI hP hD 0 rfl (f' := (fun _ => vζ)) (by intro j hj; exact fF_n j (by omega))
    have hP : va_P g.1 vwCl [aI g aζ nζ (fun _ => vζ)] H := hP
    have hD : va_D Z [aI g aζ nζ (fun _ => vζ)] := hD
    exact r_vret hx hb hr hlk hS () trivial (hP.sub [0] rfl) (hD.sub [0] (by decide) rfl) dJ7_fill_53178_20
  · have c_1 : ¬ nζ ≤ iζ := fun z => c_1 ((nI_leI (a := nζ) (b := iζ) (by omega) (by omega)).mpr z)
    refine lv_aload_n hx hb dJ7_fill_53178_10 rfl (lv_at hl 2 rfl) ?_
    refine lv_iload_n hx hb dJ7_fill_53178_11 rfl (lv_at hl 1 rfl) ?_
    refine lv_iload_n hx hb dJ7_fill_53178_12 rfl (lv_at hl 3 rfl) ?_
    refine r_iast (f' := fF fζ (fun _ => vζ) (iζ + 1)) hx hb hK hP hD hS 0 rfl (vp_in_nI (n := iζ) (by omega) (by omega)) (fF_s (nI_clamp (n := iζ) (by omega)) rfl) dJ7_fill_53178_13 (fun H locs hP hD hS => ?_)
    have hP : va_P g.1 vwCl [aI g aζ nζ (fF fζ (fun _ => vζ) (iζ + 1))] H := hP
    have hD : va_D Z [aI g aζ nζ (fF fζ (fun _ => vζ) (iζ + 1))] := hD
    refine lv_iinc (v := nI (iζ + 1)) (lv' := [(2, .int (nI (iζ + 1))), (3, .int (nI nζ)), (0, .ref aζ), (1, .int vζ)]) hx hb dJ7_fill_53178_14 hl (k := 1) rfl (nI_1 iζ) (by decide) rfl (fun ls hl => ?_)
    refine lv_goto (tgt := 5) hx hb dJ7_fill_53178_17 (by decide) ?_
    exact ih5 (iζ + 1) (by first | omega | (dsimp only; omega)) (by first | omega | (dsimp only; omega)) _ _ _ (hP.sub [0] rfl) (hD.sub [0] (by decide) rfl) hS (lv_sub hl [1, 0, 2, 3] rfl)
set_option maxHeartbeats 4000000 in
set_option maxRecDepth 100000 in
theorem c_X1_init (l : Launch) (g : GT) (sz : Nat) (hζ : Nat) : Mv (S := Nat → Nat) l yX1_init wsX1_init { frames := 1, cells := 7, slots := 177, locals := 40 } g sz [.ref hζ] [(hζ, .inr (1, [.null, .null, .null, .null, .null, .null, .null, .int 0, .int 0, .int 0, .int 0, .int 0]))] 7 177 (fun _ => True) (fun Aζ => [(hζ, .inr (1, oC Aζ iC0)), aI g (Aζ 0) 121 (fun _ => 0), aI g (Aζ 1) 10 (fun _ => 5), aI g (Aζ 2) 10 (fun _ => 0), aI g (Aζ 3) 10 (fun _ => (-6)), aI g (Aζ 4) 10 (fun j => nI j), aI g (Aζ 5) 8 (fun _ => 0), aI g (Aζ 6) 8 (fun _ => 0)]) := by
  refine gMet_v (cc := cX1_init) (maxL := 2) (ret := none) (by decide) rfl (Nat.le_of_ble_eq_true rfl) ?_
  intro p e s m args below meth c Z hx hb hr F hlk hnm hK hN hA H locs hP hD hS ls hl
  have hl : lv_has ls 2 [(0, .ref hζ)] := hl
  have F : CallFix p m c cX1_init 2 s args wsX1_init RX1 := F
  have hts := F.2.2.2.2
  have hown : s.vm.findClass RX1 = some m.cls := F.2.2.2.1
  have hi1 : ∀ w ∈ u_ws RX1 TX1 12, w ∈ wsX1_init := by decide +kernel
  refine lv_aload_n hx hb dX1_init_0 rfl (lv_at hl 0 rfl) ?_
  refine W.objInit hx hb hown (hts (.methodLink RX1 3 objectInit) (by decide +kernel)) (hts (.instanceMethod objectInit) (by decide +kernel)) (hts (.code objectInit ⟨#[0xb1]⟩ 1 none) (by decide +kernel)) rfl (by rw [F.2.2.1]; exact hl.1) rfl dX1_init_1 (Nat.le_of_ble_eq_true rfl) (Nat.le_of_ble_eq_true rfl) ?_
  refine W.eq (g2 := F0 m 4 ls []) rfl ?_
  refine lv_aload_n hx hb dX1_init_4 rfl (lv_at hl 0 rfl) ?_
  refine lv_bipush (v := 121) hx hb dX1_init_5 (by decide) ?_
  refine r_newI (N' := 121) hx hb (hts (.arrayClass .int) (by decide +kernel)) hK hP hD hS hA (by decide) (nI_clamp (n := 121) (by decide)) (Nat.le_of_ble_eq_true rfl) (Nat.le_of_ble_eq_true rfl) (Nat.le_of_ble_eq_true rfl) dX1_init_7 (fun q_1 H hP hD hS => ?_)
  have hP : va_P g.1 vwCl [(hζ, .inr (1, [.null, .null, .null, .null, .null, .null, .null, .int 0, .int 0, .int 0, .int 0, .int 0])), aI g q_1 121 (fun _ => 0)] H := hP
  have hD : va_D Z [(hζ, .inr (1, [.null, .null, .null, .null, .null, .null, .null, .int 0, .int 0, .int 0, .int 0, .int 0])), aI g q_1 121 (fun _ => 0)] := hD
  refine W.widen (k := 1) (n := 121) (by decide) (by decide) ?_
  refine va_putF (D := g.1) (ci := 1) (v := .ref q_1) (ty := (.array .int)) (C := RX1) (T := TX1) (N := 12) hx hb hts hi1 tyX1 tyX1_ok nmX1 hown hK hP hD hS 0 rfl rfl 0 (by decide) (hts (.fieldLink RX1 9 "PanTales$Close" "roads" "[I") (by decide +kernel)) (fun _ h9 => h9) rfl hnm rfl (by decide +kernel) rfl rfl (Nat.le_of_ble_eq_true rfl) dX1_init_9 (fun H locs hP hD hS => ?_)
  have hP : va_P g.1 vwCl [(hζ, .inr (1, [.ref q_1, .null, .null, .null, .null, .null, .null, .int 0, .int 0, .int 0, .int 0, .int 0])), aI g q_1 121 (fun _ => 0)] H := hP
  have hD : va_D Z [(hζ, .inr (1, [.ref q_1, .null, .null, .null, .null, .null, .null, .int 0, .int 0, .int 0, .int 0, .int 0])), aI g q_1 121 (fun _ => 0)] := hD
  refine lv_aload_n hx hb dX1_init_12 rfl (lv_at hl 0 rfl) ?_
  refine lv_bipush (v := 10) hx hb dX1_init_13 (by decide) ?_
  refine r_newI (N' := 10) hx hb (hts (.arrayClass .int) (by decide +kernel)) hK hP hD hS hA (by decide) (nI_clamp (n := 10) (by decide)) (Nat.le_of_ble_eq_true rfl) (Nat.le_of_ble_eq_true rfl) (Nat.le_of_ble_eq_true rfl) dX1_init_15 (fun q_2 H hP hD hS => ?_)
  have hP : va_P g.1 vwCl [(hζ, .inr (1, [.ref q_1, .null, .null, .null, .null, .null, .null, .int 0, .int 0, .int 0, .int 0, .int 0])), aI g q_1 121 (fun _ => 0), aI g q_2 10 (fun _ => 0)] H := hP
  have hD : va_D Z [(hζ, .inr (1, [.ref q_1, .null, .null, .null, .null, .null, .null, .int 0, .int 0, .int 0, .int 0, .int 0])), aI g q_1 121 (fun _ => 0), aI g q_2 10 (fun _ => 0)] := hD
  refine W.widen (k := 2) (n := 131) (by decide) (by decide) ?_
  refine va_putF (D := g.1) (ci := 1) (v := .ref q_2) (ty := (.array .int)) (C := RX1) (T := TX1) (N := 12) hx hb hts hi1 tyX1 tyX1_ok nmX1 hown hK hP hD hS 0 rfl rfl 1 (by decide) (hts (.fieldLink RX1 15 "PanTales$Close" "doubts" "[I") (by decide +kernel)) (fun _ h9 => h9) rfl hnm rfl (by decide +kernel) rfl rfl (Nat.le_of_ble_eq_true rfl) dX1_init_17 (fun H locs hP hD hS => ?_)
  have hP : va_P g.1 vwCl [(hζ, .inr (1, [.ref q_1, .ref q_2, .null, .null, .null, .null, .null, .int 0, .int 0, .int 0, .int 0, .int 0])), aI g q_1 121 (fun _ => 0), aI g q_2 10 (fun _ => 0)] H := hP
  have hD : va_D Z [(hζ, .inr (1, [.ref q_1, .ref q_2, .null, .null, .null, .null, .null, .int 0, .int 0, .int 0, .int 0, .int 0])), aI g q_1 121 (fun _ => 0), aI g q_2 10 (fun _ => 0)] := hD
  refine lv_aload_n hx hb dX1_init_20 rfl (lv_at hl 0 rfl) ?_
  refine lv_bipush (v := 10) hx hb dX1_init_21 (by decide) ?_
  refine r_newI (N' := 10) hx hb (hts (.arrayClass .int) (by decide +kernel)) hK hP hD hS hA (by decide) (nI_clamp (n := 10) (by decide)) (Nat.le_of_ble_eq_true rfl) (Nat.le_of_ble_eq_true rfl) (Nat.le_of_ble_eq_true rfl) dX1_init_23 (fun q_3 H hP hD hS => ?_)
  have hP : va_P g.1 vwCl [(hζ, .inr (1, [.ref q_1, .ref q_2, .null, .null, .null, .null, .null, .int 0, .int 0, .int 0, .int 0, .int 0])), aI g q_1 121 (fun _ => 0), aI g q_2 10 (fun _ => 0), aI g q_3 10 (fun _ => 0)] H := hP
  have hD : va_D Z [(hζ, .inr (1, [.ref q_1, .ref q_2, .null, .null, .null, .null, .null, .int 0, .int 0, .int 0, .int 0, .int 0])), aI g q_1 121 (fun _ => 0), aI g q_2 10 (fun _ => 0), aI g q_3 10 (fun _ => 0)] := hD
  refine W.widen (k := 3) (n := 141) (by decide) (by decide) ?_
  refine va_putF (D := g.1) (ci := 1) (v := .ref q_3) (ty := (.array .int)) (C := RX1) (T := TX1) (N := 12) hx hb hts hi1 tyX1 tyX1_ok nmX1 hown hK hP hD hS 0 rfl rfl 2 (by decide) (hts (.fieldLink RX1 18 "PanTales$Close" "damps" "[I") (by decide +kernel)) (fun _ h9 => h9) rfl hnm rfl (by decide +kernel) rfl rfl (Nat.le_of_ble_eq_true rfl) dX1_init_25 (fun H locs hP hD hS => ?_)
  have hP : va_P g.1 vwCl [(hζ, .inr (1, [.ref q_1, .ref q_2, .ref q_3, .null, .null, .null, .null, .int 0, .int 0, .int 0, .int 0, .int 0])), aI g q_1 121 (fun _ => 0), aI g q_2 10 (fun _ => 0), aI g q_3 10 (fun _ => 0)] H := hP
  have hD : va_D Z [(hζ, .inr (1, [.ref q_1, .ref q_2, .ref q_3, .null, .null, .null, .null, .int 0, .int 0, .int 0, .int 0, .int 0])), aI g q_1 121 (fun _ => 0), aI g q_2 10 (fun _ => 0), aI g q_3 10 (fun _ => 0)] := hD
  refine lv_aload_n hx hb dX1_init_28 rfl (lv_at hl 0 rfl) ?_
  refine lv_bipush (v := 10) hx hb dX1_init_29 (by decide) ?_
  refine r_newI (N' := 10) hx hb (hts (.arrayClass .int) (by decide +kernel)) hK hP hD hS hA (by decide) (nI_clamp (n := 10) (by decide)) (Nat.le_of_ble_eq_true rfl) (Nat.le_of_ble_eq_true rfl) (Nat.le_of_ble_eq_true rfl) dX1_init_31 (fun q_4 H hP hD hS => ?_)
  have hP : va_P g.1 vwCl [(hζ, .inr (1, [.ref q_1, .ref q_2, .ref q_3, .null, .null, .null, .null, .int 0, .int 0, .int 0, .int 0, .int 0])), aI g q_1 121 (fun _ => 0), aI g q_2 10 (fun _ => 0), aI g q_3 10 (fun _ => 0), aI g q_4 10 (fun _ => 0)] H := hP
  have hD : va_D Z [(hζ, .inr (1, [.ref q_1, .ref q_2, .ref q_3, .null, .null, .null, .null, .int 0, .int 0, .int 0, .int 0, .int 0])), aI g q_1 121 (fun _ => 0), aI g q_2 10 (fun _ => 0), aI g q_3 10 (fun _ => 0), aI g q_4 10 (fun _ => 0)] := hD
  refine W.widen (k := 4) (n := 151) (by decide) (by decide) ?_
  refine va_putF (D := g.1) (ci := 1) (v := .ref q_4) (ty := (.array .int)) (C := RX1) (T := TX1) (N := 12) hx hb hts hi1 tyX1 tyX1_ok nmX1 hown hK hP hD hS 0 rfl rfl 3 (by decide) (hts (.fieldLink RX1 21 "PanTales$Close" "beliefs" "[I") (by decide +kernel)) (fun _ h9 => h9) rfl hnm rfl (by decide +kernel) rfl rfl (Nat.le_of_ble_eq_true rfl) dX1_init_33 (fun H locs hP hD hS => ?_)
  have hP : va_P g.1 vwCl [(hζ, .inr (1, [.ref q_1, .ref q_2, .ref q_3, .ref q_4, .null, .null, .null, .int 0, .int 0, .int 0, .int 0, .int 0])), aI g q_1 121 (fun _ => 0), aI g q_2 10 (fun _ => 0), aI g q_3 10 (fun _ => 0), aI g q_4 10 (fun _ => 0)] H := hP
  have hD : va_D Z [(hζ, .inr (1, [.ref q_1, .ref q_2, .ref q_3, .ref q_4, .null, .null, .null, .int 0, .int 0, .int 0, .int 0, .int 0])), aI g q_1 121 (fun _ => 0), aI g q_2 10 (fun _ => 0), aI g q_3 10 (fun _ => 0), aI g q_4 10 (fun _ => 0)] := hD
  refine lv_aload_n hx hb dX1_init_36 rfl (lv_at hl 0 rfl) ?_
  refine lv_bipush (v := 10) hx hb dX1_init_37 (by decide) ?_
  refine r_newI (N' := 10) hx hb (hts (.arrayClass .int) (by decide +kernel)) hK hP hD hS hA (by decide) (nI_clamp (n := 10) (by decide)) (Nat.le_of_ble_eq_true rfl) (Nat.le_of_ble_eq_true rfl) (Nat.le_of_ble_eq_true rfl) dX1_init_39 (fun q_5 H hP hD hS => ?_)
  have hP : va_P g.1 vwCl [(hζ, .inr (1, [.ref q_1, .ref q_2, .ref q_3, .ref q_4, .null, .null, .null, .int 0, .int 0, .int 0, .int 0, .int 0])), aI g q_1 121 (fun _ => 0), aI g q_2 10 (fun _ => 0), aI g q_3 10 (fun _ => 0), aI g q_4 10 (fun _ => 0), aI g q_5 10 (fun _ => 0)] H := hP
  have hD : va_D Z [(hζ, .inr (1, [.ref q_1, .ref q_2, .ref q_3, .ref q_4, .null, .null, .null, .int 0, .int 0, .int 0, .int 0, .int 0])), aI g q_1 121 (fun _ => 0), aI g q_2 10 (fun _ => 0), aI g q_3 10 (fun _ => 0), aI g q_4 10 (fun _ => 0), aI g q_5 10 (fun _ => 0)] := hD
  refine W.widen (k := 5) (n := 161) (by decide) (by decide) ?_
  refine va_putF (D := g.1) (ci := 1) (v := .ref q_5) (ty := (.array .int)) (C := RX1) (T := TX1) (N := 12) hx hb hts hi1 tyX1 tyX1_ok nmX1 hown hK hP hD hS 0 rfl rfl 4 (by decide) (hts (.fieldLink RX1 24 "PanTales$Close" "fadings" "[I") (by decide +kernel)) (fun _ h9 => h9) rfl hnm rfl (by decide +kernel) rfl rfl (Nat.le_of_ble_eq_true rfl) dX1_init_41 (fun H locs hP hD hS => ?_)
  have hP : va_P g.1 vwCl [(hζ, .inr (1, [.ref q_1, .ref q_2, .ref q_3, .ref q_4, .ref q_5, .null, .null, .int 0, .int 0, .int 0, .int 0, .int 0])), aI g q_1 121 (fun _ => 0), aI g q_2 10 (fun _ => 0), aI g q_3 10 (fun _ => 0), aI g q_4 10 (fun _ => 0), aI g q_5 10 (fun _ => 0)] H := hP
  have hD : va_D Z [(hζ, .inr (1, [.ref q_1, .ref q_2, .ref q_3, .ref q_4, .ref q_5, .null, .null, .int 0, .int 0, .int 0, .int 0, .int 0])), aI g q_1 121 (fun _ => 0), aI g q_2 10 (fun _ => 0), aI g q_3 10 (fun _ => 0), aI g q_4 10 (fun _ => 0), aI g q_5 10 (fun _ => 0)] := hD
  refine lv_aload_n hx hb dX1_init_44 rfl (lv_at hl 0 rfl) ?_
  refine lv_bipush (v := 8) hx hb dX1_init_45 (by decide) ?_
  refine r_newI (N' := 8) hx hb (hts (.arrayClass .int) (by decide +kernel)) hK hP hD hS hA (by decide) (nI_clamp (n := 8) (by decide)) (Nat.le_of_ble_eq_true rfl) (Nat.le_of_ble_eq_true rfl) (Nat.le_of_ble_eq_true rfl) dX1_init_47 (fun q_6 H hP hD hS => ?_)
  have hP : va_P g.1 vwCl [(hζ, .inr (1, [.ref q_1, .ref q_2, .ref q_3, .ref q_4, .ref q_5, .null, .null, .int 0, .int 0, .int 0, .int 0, .int 0])), aI g q_1 121 (fun _ => 0), aI g q_2 10 (fun _ => 0), aI g q_3 10 (fun _ => 0), aI g q_4 10 (fun _ => 0), aI g q_5 10 (fun _ => 0), aI g q_6 8 (fun _ => 0)] H := hP
  have hD : va_D Z [(hζ, .inr (1, [.ref q_1, .ref q_2, .ref q_3, .ref q_4, .ref q_5, .null, .null, .int 0, .int 0, .int 0, .int 0, .int 0])), aI g q_1 121 (fun _ => 0), aI g q_2 10 (fun _ => 0), aI g q_3 10 (fun _ => 0), aI g q_4 10 (fun _ => 0), aI g q_5 10 (fun _ => 0), aI g q_6 8 (fun _ => 0)] := hD
  refine W.widen (k := 6) (n := 169) (by decide) (by decide) ?_
  refine va_putF (D := g.1) (ci := 1) (v := .ref q_6) (ty := (.array .int)) (C := RX1) (T := TX1) (N := 12) hx hb hts hi1 tyX1 tyX1_ok nmX1 hown hK hP hD hS 0 rfl rfl 5 (by decide) (hts (.fieldLink RX1 27 "PanTales$Close" "sightBeds" "[I") (by decide +kernel)) (fun _ h9 => h9) rfl hnm rfl (by decide +kernel) rfl rfl (Nat.le_of_ble_eq_true rfl) dX1_init_49 (fun H locs hP hD hS => ?_)
  have hP : va_P g.1 vwCl [(hζ, .inr (1, [.ref q_1, .ref q_2, .ref q_3, .ref q_4, .ref q_5, .ref q_6, .null, .int 0, .int 0, .int 0, .int 0, .int 0])), aI g q_1 121 (fun _ => 0), aI g q_2 10 (fun _ => 0), aI g q_3 10 (fun _ => 0), aI g q_4 10 (fun _ => 0), aI g q_5 10 (fun _ => 0), aI g q_6 8 (fun _ => 0)] H := hP
  have hD : va_D Z [(hζ, .inr (1, [.ref q_1, .ref q_2, .ref q_3, .ref q_4, .ref q_5, .ref q_6, .null, .int 0, .int 0, .int 0, .int 0, .int 0])), aI g q_1 121 (fun _ => 0), aI g q_2 10 (fun _ => 0), aI g q_3 10 (fun _ => 0), aI g q_4 10 (fun _ => 0), aI g q_5 10 (fun _ => 0), aI g q_6 8 (fun _ => 0)] := hD
  refine lv_aload_n hx hb dX1_init_52 rfl (lv_at hl 0 rfl) ?_
  refine lv_bipush (v := 8) hx hb dX1_init_53 (by decide) ?_
  refine r_newI (N' := 8) hx hb (hts (.arrayClass .int) (by decide +kernel)) hK hP hD hS hA (by decide) (nI_clamp (n := 8) (by decide)) (Nat.le_of_ble_eq_true rfl) (Nat.le_of_ble_eq_true rfl) (Nat.le_of_ble_eq_true rfl) dX1_init_55 (fun q_7 H hP hD hS => ?_)
  have hP : va_P g.1 vwCl [(hζ, .inr (1, [.ref q_1, .ref q_2, .ref q_3, .ref q_4, .ref q_5, .ref q_6, .null, .int 0, .int 0, .int 0, .int 0, .int 0])), aI g q_1 121 (fun _ => 0), aI g q_2 10 (fun _ => 0), aI g q_3 10 (fun _ => 0), aI g q_4 10 (fun _ => 0), aI g q_5 10 (fun _ => 0), aI g q_6 8 (fun _ => 0), aI g q_7 8 (fun _ => 0)] H := hP
  have hD : va_D Z [(hζ, .inr (1, [.ref q_1, .ref q_2, .ref q_3, .ref q_4, .ref q_5, .ref q_6, .null, .int 0, .int 0, .int 0, .int 0, .int 0])), aI g q_1 121 (fun _ => 0), aI g q_2 10 (fun _ => 0), aI g q_3 10 (fun _ => 0), aI g q_4 10 (fun _ => 0), aI g q_5 10 (fun _ => 0), aI g q_6 8 (fun _ => 0), aI g q_7 8 (fun _ => 0)] := hD
  refine W.widen (k := 7) (n := 177) (by decide) (by decide) ?_
  refine va_putF (D := g.1) (ci := 1) (v := .ref q_7) (ty := (.array .int)) (C := RX1) (T := TX1) (N := 12) hx hb hts hi1 tyX1 tyX1_ok nmX1 hown hK hP hD hS 0 rfl rfl 6 (by decide) (hts (.fieldLink RX1 30 "PanTales$Close" "sightTales" "[I") (by decide +kernel)) (fun _ h9 => h9) rfl hnm rfl (by decide +kernel) rfl rfl (Nat.le_of_ble_eq_true rfl) dX1_init_57 (fun H locs hP hD hS => ?_)
  have hP : va_P g.1 vwCl [(hζ, .inr (1, [.ref q_1, .ref q_2, .ref q_3, .ref q_4, .ref q_5, .ref q_6, .ref q_7, .int 0, .int 0, .int 0, .int 0, .int 0])), aI g q_1 121 (fun _ => 0), aI g q_2 10 (fun _ => 0), aI g q_3 10 (fun _ => 0), aI g q_4 10 (fun _ => 0), aI g q_5 10 (fun _ => 0), aI g q_6 8 (fun _ => 0), aI g q_7 8 (fun _ => 0)] H := hP
  have hD : va_D Z [(hζ, .inr (1, [.ref q_1, .ref q_2, .ref q_3, .ref q_4, .ref q_5, .ref q_6, .ref q_7, .int 0, .int 0, .int 0, .int 0, .int 0])), aI g q_1 121 (fun _ => 0), aI g q_2 10 (fun _ => 0), aI g q_3 10 (fun _ => 0), aI g q_4 10 (fun _ => 0), aI g q_5 10 (fun _ => 0), aI g q_6 8 (fun _ => 0), aI g q_7 8 (fun _ => 0)] := hD
  refine lv_aload_n hx hb dX1_init_60 rfl (lv_at hl 0 rfl) ?_
  refine lv_bipush (v := 10) hx hb dX1_init_61 (by decide) ?_
  refine va_put (D := g.1) (ci := 1) (v := .int 10) (ty := .int) (C := RX1) (T := TX1) (N := 12) hx hb hts hi1 tyX1 tyX1_ok nmX1 hown hK hP hD hS 0 rfl rfl 8 (by decide) (hts (.fieldLink RX1 33 "PanTales$Close" "place" "I") (by decide +kernel)) (fun _ h9 => h9) rfl (by decide +kernel) rfl rfl (Nat.le_of_ble_eq_true rfl) dX1_init_63 (fun H locs hP hD hS => ?_)
  have hP : va_P g.1 vwCl [(hζ, .inr (1, [.ref q_1, .ref q_2, .ref q_3, .ref q_4, .ref q_5, .ref q_6, .ref q_7, .int 0, .int 10, .int 0, .int 0, .int 0])), aI g q_1 121 (fun _ => 0), aI g q_2 10 (fun _ => 0), aI g q_3 10 (fun _ => 0), aI g q_4 10 (fun _ => 0), aI g q_5 10 (fun _ => 0), aI g q_6 8 (fun _ => 0), aI g q_7 8 (fun _ => 0)] H := hP
  have hD : va_D Z [(hζ, .inr (1, [.ref q_1, .ref q_2, .ref q_3, .ref q_4, .ref q_5, .ref q_6, .ref q_7, .int 0, .int 10, .int 0, .int 0, .int 0])), aI g q_1 121 (fun _ => 0), aI g q_2 10 (fun _ => 0), aI g q_3 10 (fun _ => 0), aI g q_4 10 (fun _ => 0), aI g q_5 10 (fun _ => 0), aI g q_6 8 (fun _ => 0), aI g q_7 8 (fun _ => 0)] := hD
  refine lv_aload_n hx hb dX1_init_66 rfl (lv_at hl 0 rfl) ?_
  refine va_get (D := g.1) (ci := 1) (v := .ref q_2) (C := RX1) (T := TX1) (N := 12) hx hb hts hi1 hown hK hP 0 rfl rfl 1 (by decide) (hts (.fieldLink RX1 15 "PanTales$Close" "doubts" "[I") (by decide +kernel)) (fun _ h9 => h9) rfl dX1_init_67 ?_
  refine lv_iconst (v := 5) hx hb dX1_init_70 (by decide) ?_
  refine gcS_v (As := [.ref q_2, .int 5]) (rest := []) F hK hN hP hD hS hA (c_J7_fill_53178 l g H.size q_2 10 (fun _ => 0) 5 (by decide)) gX1_init_J7_fill_53178 kJ7_fill_53178 rfl rfl rfl ⟨(Nat.le_of_ble_eq_true rfl), (Nat.le_of_ble_eq_true rfl)⟩ [2] [0, 1, 3, 4, 5, 6, 7] rfl rfl rfl (by decide) rfl rfl rfl hl.1 (Nat.le_of_ble_eq_true rfl) dX1_init_71 ⟨(Nat.le_of_ble_eq_true rfl), (Nat.le_of_ble_eq_true rfl)⟩ (fun u_w H locs hw hP hD hS => ?_)
  have hP : va_P g.1 vwCl [(hζ, .inr (1, [.ref q_1, .ref q_2, .ref q_3, .ref q_4, .ref q_5, .ref q_6, .ref q_7, .int 0, .int 10, .int 0, .int 0, .int 0])), aI g q_1 121 (fun _ => 0), aI g q_3 10 (fun _ => 0), aI g q_4 10 (fun _ => 0), aI g q_5 10 (fun _ => 0), aI g q_6 8 (fun _ => 0), aI g q_7 8 (fun _ => 0), aI g q_2 10 (fun _ => 5)] H := hP
  have hD : va_D Z [(hζ, .inr (1, [.ref q_1, .ref q_2, .ref q_3, .ref q_4, .ref q_5, .ref q_6, .ref q_7, .int 0, .int 10, .int 0, .int 0, .int 0])), aI g q_1 121 (fun _ => 0), aI g q_3 10 (fun _ => 0), aI g q_4 10 (fun _ => 0), aI g q_5 10 (fun _ => 0), aI g q_6 8 (fun _ => 0), aI g q_7 8 (fun _ => 0), aI g q_2 10 (fun _ => 5)] := hD
  refine lv_aload_n hx hb dX1_init_74 rfl (lv_at hl 0 rfl) ?_
  refine va_get (D := g.1) (ci := 1) (v := .ref q_4) (C := RX1) (T := TX1) (N := 12) hx hb hts hi1 hown hK hP 0 rfl rfl 3 (by decide) (hts (.fieldLink RX1 21 "PanTales$Close" "beliefs" "[I") (by decide +kernel)) (fun _ h9 => h9) rfl dX1_init_75 ?_
  refine lv_bipush (v := (-6)) hx hb dX1_init_78 (by decide) ?_
  refine gcS_v (As := [.ref q_4, .int (-6)]) (rest := []) F hK hN hP hD hS hA (c_J7_fill_53178 l g H.size q_4 10 (fun _ => 0) (-6) (by decide)) gX1_init_J7_fill_53178 kJ7_fill_53178 rfl rfl rfl ⟨(Nat.le_of_ble_eq_true rfl), (Nat.le_of_ble_eq_true rfl)⟩ [3] [0, 1, 2, 4, 5, 6, 7] rfl rfl rfl (by decide) rfl rfl rfl hl.1 (Nat.le_of_ble_eq_true rfl) dX1_init_80 ⟨(Nat.le_of_ble_eq_true rfl), (Nat.le_of_ble_eq_true rfl)⟩ (fun u_w H locs hw hP hD hS => ?_)
  have hP : va_P g.1 vwCl [(hζ, .inr (1, [.ref q_1, .ref q_2, .ref q_3, .ref q_4, .ref q_5, .ref q_6, .ref q_7, .int 0, .int 10, .int 0, .int 0, .int 0])), aI g q_1 121 (fun _ => 0), aI g q_3 10 (fun _ => 0), aI g q_5 10 (fun _ => 0), aI g q_6 8 (fun _ => 0), aI g q_7 8 (fun _ => 0), aI g q_2 10 (fun _ => 5), aI g q_4 10 (fun _ => (-6))] H := hP
  have hD : va_D Z [(hζ, .inr (1, [.ref q_1, .ref q_2, .ref q_3, .ref q_4, .ref q_5, .ref q_6, .ref q_7, .int 0, .int 10, .int 0, .int 0, .int 0])), aI g q_1 121 (fun _ => 0), aI g q_3 10 (fun _ => 0), aI g q_5 10 (fun _ => 0), aI g q_6 8 (fun _ => 0), aI g q_7 8 (fun _ => 0), aI g q_2 10 (fun _ => 5), aI g q_4 10 (fun _ => (-6))] := hD
  refine lv_iconst (v := 0) hx hb dX1_init_83 (by decide) ?_
  refine lv_istore_n (lv' := [(1, .int 0), (0, .ref hζ)]) hx hb dX1_init_84 rfl hl (by decide) rfl (fun ls hl => ?_)
  obtain ⟨hP, hD⟩ := r_extI hP hD 3 rfl (f' := fF (fun _ => 0) (fun j => nI j) 0) fF_0
  have hP : va_P g.1 vwCl [(hζ, .inr (1, [.ref q_1, .ref q_2, .ref q_3, .ref q_4, .ref q_5, .ref q_6, .ref q_7, .int 0, .int 10, .int 0, .int 0, .int 0])), aI g q_1 121 (fun _ => 0), aI g q_3 10 (fun _ => 0), aI g q_5 10 (fF (fun _ => 0) (fun j => nI j) 0), aI g q_6 8 (fun _ => 0), aI g q_7 8 (fun _ => 0), aI g q_2 10 (fun _ => 5), aI g q_4 10 (fun _ => (-6))] H := hP
  have hD : va_D Z [(hζ, .inr (1, [.ref q_1, .ref q_2, .ref q_3, .ref q_4, .ref q_5, .ref q_6, .ref q_7, .int 0, .int 10, .int 0, .int 0, .int 0])), aI g q_1 121 (fun _ => 0), aI g q_3 10 (fun _ => 0), aI g q_5 10 (fF (fun _ => 0) (fun j => nI j) 0), aI g q_6 8 (fun _ => 0), aI g q_7 8 (fun _ => 0), aI g q_2 10 (fun _ => 5), aI g q_4 10 (fun _ => (-6))] := hD
  refine gloop (σ := Nat) (fun u0 => 10 - u0) (fun u0 => u0 ≤ 10) (fun u0 => [(hζ, .inr (1, [.ref q_1, .ref q_2, .ref q_3, .ref q_4, .ref q_5, .ref q_6, .ref q_7, .int 0, .int 10, .int 0, .int 0, .int 0])), aI g q_1 121 (fun _ => 0), aI g q_3 10 (fun _ => 0), aI g q_5 10 (fF (fun _ => 0) (fun j => nI j) u0), aI g q_6 8 (fun _ => 0), aI g q_7 8 (fun _ => 0), aI g q_2 10 (fun _ => 5), aI g q_4 10 (fun _ => (-6))]) (fun u0 => [(1, .int (nI u0)), (0, .ref hζ)]) ?_ 0 (by first | omega | decide | rfl) (hP.sub [0, 1, 2, 3, 4, 5, 6, 7] rfl) (hD.sub [0, 1, 2, 3, 4, 5, 6, 7] (by decide) rfl) hS (lv_sub hl [0, 1] rfl)
  rintro iζ hiζ ih85 H locs ls hP hD hS hl
  have hiζ : iζ ≤ 10 := hiζ
  have hP : va_P g.1 vwCl [(hζ, .inr (1, [.ref q_1, .ref q_2, .ref q_3, .ref q_4, .ref q_5, .ref q_6, .ref q_7, .int 0, .int 10, .int 0, .int 0, .int 0])), aI g q_1 121 (fun _ => 0), aI g q_3 10 (fun _ => 0), aI g q_5 10 (fF (fun _ => 0) (fun j => nI j) iζ), aI g q_6 8 (fun _ => 0), aI g q_7 8 (fun _ => 0), aI g q_2 10 (fun _ => 5), aI g q_4 10 (fun _ => (-6))] H := hP
  have hD : va_D Z [(hζ, .inr (1, [.ref q_1, .ref q_2, .ref q_3, .ref q_4, .ref q_5, .ref q_6, .ref q_7, .int 0, .int 10, .int 0, .int 0, .int 0])), aI g q_1 121 (fun _ => 0), aI g q_3 10 (fun _ => 0), aI g q_5 10 (fF (fun _ => 0) (fun j => nI j) iζ), aI g q_6 8 (fun _ => 0), aI g q_7 8 (fun _ => 0), aI g q_2 10 (fun _ => 5), aI g q_4 10 (fun _ => (-6))] := hD
  have hl : lv_has ls 2 [(1, .int (nI iζ)), (0, .ref hζ)] := hl
  refine lv_iload_n hx hb dX1_init_85 rfl (lv_at hl 0 rfl) ?_
  refine lv_bipush (v := 10) hx hb dX1_init_86 (by decide) ?_
  refine lv_icmp_ge (tgt := 104) hx hb dX1_init_88 (by decide) (fun c_8 => ?_) (fun c_8 => ?_)
  · have c_8 : 10 ≤ iζ := (nI_leI (a := 10) (b := iζ) (by omega) (by omega)).mp c_8
    obtain ⟨hP, hD⟩ := r_extI hP hD 3 rfl (f' := (fun j => nI j)) (by intro j hj; exact fF_n j (by omega))
    have hP : va_P g.1 vwCl [(hζ, .inr (1, [.ref q_1, .ref q_2, .ref q_3, .ref q_4, .ref q_5, .ref q_6, .ref q_7, .int 0, .int 10, .int 0, .int 0, .int 0])), aI g q_1 121 (fun _ => 0), aI g q_3 10 (fun _ => 0), aI g q_5 10 (fun j => nI j), aI g q_6 8 (fun _ => 0), aI g q_7 8 (fun _ => 0), aI g q_2 10 (fun _ => 5), aI g q_4 10 (fun _ => (-6))] H := hP
    have hD : va_D Z [(hζ, .inr (1, [.ref q_1, .ref q_2, .ref q_3, .ref q_4, .ref q_5, .ref q_6, .ref q_7, .int 0, .int 10, .int 0, .int 0, .int 0])), aI g q_1 121 (fun _ => 0), aI g q_3 10 (fun _ => 0), aI g q_5 10 (fun j => nI j), aI g q_6 8 (fun _ => 0), aI g q_7 8 (fun _ => 0), aI g q_2 10 (fun _ => 5), aI g q_4 10 (fun _ => (-6))] := hD
    exact r_vret hx hb hr hlk hS (mkA [q_1, q_2, q_3, q_4, q_5, q_6, q_7]) trivial (hP.sub [0, 1, 6, 2, 7, 3, 4, 5] rfl) (hD.sub [0, 1, 6, 2, 7, 3, 4, 5] (by decide) rfl) dX1_init_104
  · have c_8 : ¬ 10 ≤ iζ := fun z => c_8 ((nI_leI (a := 10) (b := iζ) (by omega) (by omega)).mpr z)
    refine lv_aload_n hx hb dX1_init_91 rfl (lv_at hl 1 rfl) ?_
    refine va_get (D := g.1) (ci := 1) (v := .ref q_5) (C := RX1) (T := TX1) (N := 12) hx hb hts hi1 hown hK hP 0 rfl rfl 4 (by decide) (hts (.fieldLink RX1 24 "PanTales$Close" "fadings" "[I") (by decide +kernel)) (fun _ h9 => h9) rfl dX1_init_92 ?_
    refine lv_iload_n hx hb dX1_init_95 rfl (lv_at hl 0 rfl) ?_
    refine lv_iload_n hx hb dX1_init_96 rfl (lv_at hl 0 rfl) ?_
    refine r_iast (f' := fF (fun _ => 0) (fun j => nI j) (iζ + 1)) hx hb hK hP hD hS 3 rfl (vp_in_nI (n := iζ) (by omega) (by omega)) (fF_s (nI_clamp (n := iζ) (by omega)) rfl) dX1_init_97 (fun H locs hP hD hS => ?_)
    have hP : va_P g.1 vwCl [(hζ, .inr (1, [.ref q_1, .ref q_2, .ref q_3, .ref q_4, .ref q_5, .ref q_6, .ref q_7, .int 0, .int 10, .int 0, .int 0, .int 0])), aI g q_1 121 (fun _ => 0), aI g q_3 10 (fun _ => 0), aI g q_5 10 (fF (fun _ => 0) (fun j => nI j) (iζ + 1)), aI g q_6 8 (fun _ => 0), aI g q_7 8 (fun _ => 0), aI g q_2 10 (fun _ => 5), aI g q_4 10 (fun _ => (-6))] H := hP
    have hD : va_D Z [(hζ, .inr (1, [.ref q_1, .ref q_2, .ref q_3, .ref q_4, .ref q_5, .ref q_6, .ref q_7, .int 0, .int 10, .int 0, .int 0, .int 0])), aI g q_1 121 (fun _ => 0), aI g q_3 10 (fun _ => 0), aI g q_5 10 (fF (fun _ => 0) (fun j => nI j) (iζ + 1)), aI g q_6 8 (fun _ => 0), aI g q_7 8 (fun _ => 0), aI g q_2 10 (fun _ => 5), aI g q_4 10 (fun _ => (-6))] := hD
    refine lv_iinc (v := nI (iζ + 1)) (lv' := [(1, .int (nI (iζ + 1))), (0, .ref hζ)]) hx hb dX1_init_98 hl (k := 0) rfl (nI_1 iζ) (by decide) rfl (fun ls hl => ?_)
    refine lv_goto (tgt := 85) hx hb dX1_init_101 (by decide) ?_
    exact ih85 (iζ + 1) (by first | omega | (dsimp only; omega)) (by first | omega | (dsimp only; omega)) _ _ _ (hP.sub [0, 1, 2, 3, 4, 5, 6, 7] rfl) (hD.sub [0, 1, 2, 3, 4, 5, 6, 7] (by decide) rfl) hS (lv_sub hl [0, 1] rfl)
set_option maxHeartbeats 4000000 in
set_option maxRecDepth 100000 in
theorem c_X3_init (l : Launch) (g : GT) (sz : Nat) (hζ : Nat) : Mv (S := Nat) l yX3_init wsX3_init { frames := 1, cells := 1, slots := 60, locals := 40 } g sz [.ref hζ] [(hζ, .inr (3, [.null, .int 0]))] 1 60 (fun _ => True) (fun aζ => [(hζ, .inr (3, [.ref aζ, .int 0])), aI g aζ 60 (fun _ => 0)]) := by
  refine gMet_v (cc := cX3_init) (maxL := 1) (ret := none) (by decide) rfl (Nat.le_of_ble_eq_true rfl) ?_
  intro p e s m args below meth c Z hx hb hr F hlk hnm hK hN hA H locs hP hD hS ls hl
  have hl : lv_has ls 1 [(0, .ref hζ)] := hl
  have F : CallFix p m c cX3_init 1 s args wsX3_init RX3 := F
  have hts := F.2.2.2.2
  have hown : s.vm.findClass RX3 = some m.cls := F.2.2.2.1
  have hi3 : ∀ w ∈ u_ws RX3 TX3 2, w ∈ wsX3_init := by decide +kernel
  refine lv_aload_n hx hb dX3_init_0 rfl (lv_at hl 0 rfl) ?_
  refine W.objInit hx hb hown (hts (.methodLink RX3 3 objectInit) (by decide +kernel)) (hts (.instanceMethod objectInit) (by decide +kernel)) (hts (.code objectInit ⟨#[0xb1]⟩ 1 none) (by decide +kernel)) rfl (by rw [F.2.2.1]; exact hl.1) rfl dX3_init_1 (Nat.le_of_ble_eq_true rfl) (Nat.le_of_ble_eq_true rfl) ?_
  refine W.eq (g2 := F0 m 4 ls []) rfl ?_
  refine lv_aload_n hx hb dX3_init_4 rfl (lv_at hl 0 rfl) ?_
  refine lv_bipush (v := 60) hx hb dX3_init_5 (by decide) ?_
  refine r_newI (N' := 60) hx hb (hts (.arrayClass .int) (by decide +kernel)) hK hP hD hS hA (by decide) (nI_clamp (n := 60) (by decide)) (Nat.le_of_ble_eq_true rfl) (Nat.le_of_ble_eq_true rfl) (Nat.le_of_ble_eq_true rfl) dX3_init_7 (fun q_1 H hP hD hS => ?_)
  have hP : va_P g.1 vwCl [(hζ, .inr (3, [.null, .int 0])), aI g q_1 60 (fun _ => 0)] H := hP
  have hD : va_D Z [(hζ, .inr (3, [.null, .int 0])), aI g q_1 60 (fun _ => 0)] := hD
  refine W.widen (k := 1) (n := 60) (by decide) (by decide) ?_
  refine va_putF (D := g.1) (ci := 3) (v := .ref q_1) (ty := (.array .int)) (C := RX3) (T := TX3) (N := 2) hx hb hts hi3 tyX3 tyX3_ok nmX3 hown hK hP hD hS 0 rfl rfl 0 (by decide) (hts (.fieldLink RX3 9 "PanTales$Pad" "signs" "[I") (by decide +kernel)) (fun _ h9 => h9) rfl hnm rfl (by decide +kernel) rfl rfl (Nat.le_of_ble_eq_true rfl) dX3_init_9 (fun H locs hP hD hS => ?_)
  have hP : va_P g.1 vwCl [(hζ, .inr (3, [.ref q_1, .int 0])), aI g q_1 60 (fun _ => 0)] H := hP
  have hD : va_D Z [(hζ, .inr (3, [.ref q_1, .int 0])), aI g q_1 60 (fun _ => 0)] := hD
  exact r_vret hx hb hr hlk hS q_1 trivial (hP.sub [0, 1] rfl) (hD.sub [0, 1] (by decide) rfl) dX3_init_12
set_option maxHeartbeats 4000000 in
set_option maxRecDepth 100000 in
theorem c_X2_init (l : Launch) (g : GT) (sz : Nat) (hζ : Nat) : Cv l yX2_init wsX2_init { frames := 1, cells := 0, slots := 0, locals := 40 } g sz [.ref hζ] [(hζ, .inr (2, [.int 0, .int 0, .int 0, .int 0, .int 0, .int 0]))] [(hζ, .inr (2, [.int 0, .int 0, .int 0, .int 0, .int 0, .int 0]))] := by
  refine gMet_v (cc := cX2_init) (maxL := 1) (ret := none) (by decide) rfl (Nat.le_of_ble_eq_true rfl) ?_
  intro p e s m args below meth c Z hx hb hr F hlk hnm hK hN hA H locs hP hD hS ls hl
  have hl : lv_has ls 1 [(0, .ref hζ)] := hl
  have F : CallFix p m c cX2_init 1 s args wsX2_init RX2 := F
  have hts := F.2.2.2.2
  have hown : s.vm.findClass RX2 = some m.cls := F.2.2.2.1
  refine lv_aload_n hx hb dX2_init_0 rfl (lv_at hl 0 rfl) ?_
  refine W.objInit hx hb hown (hts (.methodLink RX2 3 objectInit) (by decide +kernel)) (hts (.instanceMethod objectInit) (by decide +kernel)) (hts (.code objectInit ⟨#[0xb1]⟩ 1 none) (by decide +kernel)) rfl (by rw [F.2.2.1]; exact hl.1) rfl dX2_init_1 (Nat.le_of_ble_eq_true rfl) (Nat.le_of_ble_eq_true rfl) ?_
  refine W.eq (g2 := F0 m 4 ls []) rfl ?_
  exact r_vret hx hb hr hlk hS () trivial (hP.sub [0] rfl) (hD.sub [0] (by decide) rfl) dX2_init_4
set_option maxHeartbeats 4000000 in
set_option maxRecDepth 100000 in
theorem c_X5_init (l : Launch) (g : GT) (sz : Nat) (hζ : Nat) : Mv (S := Nat → Nat) l yX5_init wsX5_init { frames := 1, cells := 2, slots := 132, locals := 40 } g sz [.ref hζ] [(hζ, .inr (5, [.null, .null, .null]))] 2 132 (fun _ => True) (fun Gζ => [(hζ, .inr (5, [.ref (Gζ 0), .ref (Gζ 1), .null])), aI g (Gζ 0) 121 (fun _ => 0), aI g (Gζ 1) 11 (fun _ => 0)]) := by
  refine gMet_v (cc := cX5_init) (maxL := 1) (ret := none) (by decide) rfl (Nat.le_of_ble_eq_true rfl) ?_
  intro p e s m args below meth c Z hx hb hr F hlk hnm hK hN hA H locs hP hD hS ls hl
  have hl : lv_has ls 1 [(0, .ref hζ)] := hl
  have F : CallFix p m c cX5_init 1 s args wsX5_init RX5 := F
  have hts := F.2.2.2.2
  have hown : s.vm.findClass RX5 = some m.cls := F.2.2.2.1
  have hi5 : ∀ w ∈ u_ws RX5 TX5 3, w ∈ wsX5_init := by decide +kernel
  refine lv_aload_n hx hb dX5_init_0 rfl (lv_at hl 0 rfl) ?_
  refine W.objInit hx hb hown (hts (.methodLink RX5 3 objectInit) (by decide +kernel)) (hts (.instanceMethod objectInit) (by decide +kernel)) (hts (.code objectInit ⟨#[0xb1]⟩ 1 none) (by decide +kernel)) rfl (by rw [F.2.2.1]; exact hl.1) rfl dX5_init_1 (Nat.le_of_ble_eq_true rfl) (Nat.le_of_ble_eq_true rfl) ?_
  refine W.eq (g2 := F0 m 4 ls []) rfl ?_
  refine lv_aload_n hx hb dX5_init_4 rfl (lv_at hl 0 rfl) ?_
  refine lv_bipush (v := 121) hx hb dX5_init_5 (by decide) ?_
  refine r_newI (N' := 121) hx hb (hts (.arrayClass .int) (by decide +kernel)) hK hP hD hS hA (by decide) (nI_clamp (n := 121) (by decide)) (Nat.le_of_ble_eq_true rfl) (Nat.le_of_ble_eq_true rfl) (Nat.le_of_ble_eq_true rfl) dX5_init_7 (fun q_1 H hP hD hS => ?_)
  have hP : va_P g.1 vwCl [(hζ, .inr (5, [.null, .null, .null])), aI g q_1 121 (fun _ => 0)] H := hP
  have hD : va_D Z [(hζ, .inr (5, [.null, .null, .null])), aI g q_1 121 (fun _ => 0)] := hD
  refine W.widen (k := 1) (n := 121) (by decide) (by decide) ?_
  refine va_putF (D := g.1) (ci := 5) (v := .ref q_1) (ty := (.array .int)) (C := RX5) (T := TX5) (N := 3) hx hb hts hi5 tyX5 tyX5_ok nmX5 hown hK hP hD hS 0 rfl rfl 0 (by decide) (hts (.fieldLink RX5 9 "PanTales$Ways" "least" "[I") (by decide +kernel)) (fun _ h9 => h9) rfl hnm rfl (by decide +kernel) rfl rfl (Nat.le_of_ble_eq_true rfl) dX5_init_9 (fun H locs hP hD hS => ?_)
  have hP : va_P g.1 vwCl [(hζ, .inr (5, [.ref q_1, .null, .null])), aI g q_1 121 (fun _ => 0)] H := hP
  have hD : va_D Z [(hζ, .inr (5, [.ref q_1, .null, .null])), aI g q_1 121 (fun _ => 0)] := hD
  refine lv_aload_n hx hb dX5_init_12 rfl (lv_at hl 0 rfl) ?_
  refine lv_bipush (v := 11) hx hb dX5_init_13 (by decide) ?_
  refine r_newI (N' := 11) hx hb (hts (.arrayClass .int) (by decide +kernel)) hK hP hD hS hA (by decide) (nI_clamp (n := 11) (by decide)) (Nat.le_of_ble_eq_true rfl) (Nat.le_of_ble_eq_true rfl) (Nat.le_of_ble_eq_true rfl) dX5_init_15 (fun q_2 H hP hD hS => ?_)
  have hP : va_P g.1 vwCl [(hζ, .inr (5, [.ref q_1, .null, .null])), aI g q_1 121 (fun _ => 0), aI g q_2 11 (fun _ => 0)] H := hP
  have hD : va_D Z [(hζ, .inr (5, [.ref q_1, .null, .null])), aI g q_1 121 (fun _ => 0), aI g q_2 11 (fun _ => 0)] := hD
  refine W.widen (k := 2) (n := 132) (by decide) (by decide) ?_
  refine va_putF (D := g.1) (ci := 5) (v := .ref q_2) (ty := (.array .int)) (C := RX5) (T := TX5) (N := 3) hx hb hts hi5 tyX5 tyX5_ok nmX5 hown hK hP hD hS 0 rfl rfl 1 (by decide) (hts (.fieldLink RX5 15 "PanTales$Ways" "neighbours" "[I") (by decide +kernel)) (fun _ h9 => h9) rfl hnm rfl (by decide +kernel) rfl rfl (Nat.le_of_ble_eq_true rfl) dX5_init_17 (fun H locs hP hD hS => ?_)
  have hP : va_P g.1 vwCl [(hζ, .inr (5, [.ref q_1, .ref q_2, .null])), aI g q_1 121 (fun _ => 0), aI g q_2 11 (fun _ => 0)] H := hP
  have hD : va_D Z [(hζ, .inr (5, [.ref q_1, .ref q_2, .null])), aI g q_1 121 (fun _ => 0), aI g q_2 11 (fun _ => 0)] := hD
  exact r_vret hx hb hr hlk hS (mkA [q_1, q_2]) trivial (hP.sub [0, 1, 2] rfl) (hD.sub [0, 1, 2] (by decide) rfl) dX5_init_20
set_option maxHeartbeats 4000000 in
set_option maxRecDepth 100000 in
theorem c_X4_init (l : Launch) (g : GT) (sz : Nat) (hζ : Nat) : Mv (S := Nat → Nat) l yX4_init wsX4_init { frames := 1, cells := 3, slots := 470, locals := 40 } g sz [.ref hζ] [(hζ, .inr (4, [.null, .null, .null, .int 0]))] 3 470 (fun _ => True) (fun Gζ => [(hζ, .inr (4, [.ref (Gζ 0), .ref (Gζ 1), .ref (Gζ 2), .int 0])), aI g (Gζ 0) 410 (fun _ => 0), aI g (Gζ 1) 50 (fun _ => 0), aI g (Gζ 2) 10 (fun _ => 0)]) := by
  refine gMet_v (cc := cX4_init) (maxL := 1) (ret := none) (by decide) rfl (Nat.le_of_ble_eq_true rfl) ?_
  intro p e s m args below meth c Z hx hb hr F hlk hnm hK hN hA H locs hP hD hS ls hl
  have hl : lv_has ls 1 [(0, .ref hζ)] := hl
  have F : CallFix p m c cX4_init 1 s args wsX4_init RX4 := F
  have hts := F.2.2.2.2
  have hown : s.vm.findClass RX4 = some m.cls := F.2.2.2.1
  have hi4 : ∀ w ∈ u_ws RX4 TX4 4, w ∈ wsX4_init := by decide +kernel
  refine lv_aload_n hx hb dX4_init_0 rfl (lv_at hl 0 rfl) ?_
  refine W.objInit hx hb hown (hts (.methodLink RX4 3 objectInit) (by decide +kernel)) (hts (.instanceMethod objectInit) (by decide +kernel)) (hts (.code objectInit ⟨#[0xb1]⟩ 1 none) (by decide +kernel)) rfl (by rw [F.2.2.1]; exact hl.1) rfl dX4_init_1 (Nat.le_of_ble_eq_true rfl) (Nat.le_of_ble_eq_true rfl) ?_
  refine W.eq (g2 := F0 m 4 ls []) rfl ?_
  refine lv_aload_n hx hb dX4_init_4 rfl (lv_at hl 0 rfl) ?_
  refine lv_sipush (v := 410) hx hb dX4_init_5 (by decide) ?_
  refine r_newI (N' := 410) hx hb (hts (.arrayClass .int) (by decide +kernel)) hK hP hD hS hA (by decide) (nI_clamp (n := 410) (by decide)) (Nat.le_of_ble_eq_true rfl) (Nat.le_of_ble_eq_true rfl) (Nat.le_of_ble_eq_true rfl) dX4_init_8 (fun q_1 H hP hD hS => ?_)
  have hP : va_P g.1 vwCl [(hζ, .inr (4, [.null, .null, .null, .int 0])), aI g q_1 410 (fun _ => 0)] H := hP
  have hD : va_D Z [(hζ, .inr (4, [.null, .null, .null, .int 0])), aI g q_1 410 (fun _ => 0)] := hD
  refine W.widen (k := 1) (n := 410) (by decide) (by decide) ?_
  refine va_putF (D := g.1) (ci := 4) (v := .ref q_1) (ty := (.array .int)) (C := RX4) (T := TX4) (N := 4) hx hb hts hi4 tyX4 tyX4_ok nmX4 hown hK hP hD hS 0 rfl rfl 0 (by decide) (hts (.fieldLink RX4 9 "PanTales$Sayings" "faded" "[I") (by decide +kernel)) (fun _ h9 => h9) rfl hnm rfl (by decide +kernel) rfl rfl (Nat.le_of_ble_eq_true rfl) dX4_init_10 (fun H locs hP hD hS => ?_)
  have hP : va_P g.1 vwCl [(hζ, .inr (4, [.ref q_1, .null, .null, .int 0])), aI g q_1 410 (fun _ => 0)] H := hP
  have hD : va_D Z [(hζ, .inr (4, [.ref q_1, .null, .null, .int 0])), aI g q_1 410 (fun _ => 0)] := hD
  refine lv_aload_n hx hb dX4_init_13 rfl (lv_at hl 0 rfl) ?_
  refine lv_bipush (v := 50) hx hb dX4_init_14 (by decide) ?_
  refine r_newI (N' := 50) hx hb (hts (.arrayClass .int) (by decide +kernel)) hK hP hD hS hA (by decide) (nI_clamp (n := 50) (by decide)) (Nat.le_of_ble_eq_true rfl) (Nat.le_of_ble_eq_true rfl) (Nat.le_of_ble_eq_true rfl) dX4_init_16 (fun q_2 H hP hD hS => ?_)
  have hP : va_P g.1 vwCl [(hζ, .inr (4, [.ref q_1, .null, .null, .int 0])), aI g q_1 410 (fun _ => 0), aI g q_2 50 (fun _ => 0)] H := hP
  have hD : va_D Z [(hζ, .inr (4, [.ref q_1, .null, .null, .int 0])), aI g q_1 410 (fun _ => 0), aI g q_2 50 (fun _ => 0)] := hD
  refine W.widen (k := 2) (n := 460) (by decide) (by decide) ?_
  refine va_putF (D := g.1) (ci := 4) (v := .ref q_2) (ty := (.array .int)) (C := RX4) (T := TX4) (N := 4) hx hb hts hi4 tyX4 tyX4_ok nmX4 hown hK hP hD hS 0 rfl rfl 1 (by decide) (hts (.fieldLink RX4 15 "PanTales$Sayings" "twos" "[I") (by decide +kernel)) (fun _ h9 => h9) rfl hnm rfl (by decide +kernel) rfl rfl (Nat.le_of_ble_eq_true rfl) dX4_init_18 (fun H locs hP hD hS => ?_)
  have hP : va_P g.1 vwCl [(hζ, .inr (4, [.ref q_1, .ref q_2, .null, .int 0])), aI g q_1 410 (fun _ => 0), aI g q_2 50 (fun _ => 0)] H := hP
  have hD : va_D Z [(hζ, .inr (4, [.ref q_1, .ref q_2, .null, .int 0])), aI g q_1 410 (fun _ => 0), aI g q_2 50 (fun _ => 0)] := hD
  refine lv_aload_n hx hb dX4_init_21 rfl (lv_at hl 0 rfl) ?_
  refine lv_bipush (v := 10) hx hb dX4_init_22 (by decide) ?_
  refine r_newI (N' := 10) hx hb (hts (.arrayClass .int) (by decide +kernel)) hK hP hD hS hA (by decide) (nI_clamp (n := 10) (by decide)) (Nat.le_of_ble_eq_true rfl) (Nat.le_of_ble_eq_true rfl) (Nat.le_of_ble_eq_true rfl) dX4_init_24 (fun q_3 H hP hD hS => ?_)
  have hP : va_P g.1 vwCl [(hζ, .inr (4, [.ref q_1, .ref q_2, .null, .int 0])), aI g q_1 410 (fun _ => 0), aI g q_2 50 (fun _ => 0), aI g q_3 10 (fun _ => 0)] H := hP
  have hD : va_D Z [(hζ, .inr (4, [.ref q_1, .ref q_2, .null, .int 0])), aI g q_1 410 (fun _ => 0), aI g q_2 50 (fun _ => 0), aI g q_3 10 (fun _ => 0)] := hD
  refine W.widen (k := 3) (n := 470) (by decide) (by decide) ?_
  refine va_putF (D := g.1) (ci := 4) (v := .ref q_3) (ty := (.array .int)) (C := RX4) (T := TX4) (N := 4) hx hb hts hi4 tyX4 tyX4_ok nmX4 hown hK hP hD hS 0 rfl rfl 2 (by decide) (hts (.fieldLink RX4 18 "PanTales$Sayings" "left" "[I") (by decide +kernel)) (fun _ h9 => h9) rfl hnm rfl (by decide +kernel) rfl rfl (Nat.le_of_ble_eq_true rfl) dX4_init_26 (fun H locs hP hD hS => ?_)
  have hP : va_P g.1 vwCl [(hζ, .inr (4, [.ref q_1, .ref q_2, .ref q_3, .int 0])), aI g q_1 410 (fun _ => 0), aI g q_2 50 (fun _ => 0), aI g q_3 10 (fun _ => 0)] H := hP
  have hD : va_D Z [(hζ, .inr (4, [.ref q_1, .ref q_2, .ref q_3, .int 0])), aI g q_1 410 (fun _ => 0), aI g q_2 50 (fun _ => 0), aI g q_3 10 (fun _ => 0)] := hD
  exact r_vret hx hb hr hlk hS (mkA [q_1, q_2, q_3]) trivial (hP.sub [0, 1, 2, 3] rfl) (hD.sub [0, 1, 2, 3] (by decide) rfl) dX4_init_29
set_option maxHeartbeats 4000000 in
set_option maxRecDepth 100000 in
theorem c_X0_init (l : Launch) (g : GT) (sz : Nat) (hζ : Nat) : Mv (S := Nat → Nat) l yX0_init wsX0_init { frames := 1, cells := 3, slots := 83, locals := 40 } g sz [.ref hζ] [(hζ, .inr (0, [.null, .null, .null]))] 3 83 (fun _ => True) (fun Gζ => [(hζ, .inr (0, [.ref (Gζ 0), .ref (Gζ 1), .ref (Gζ 2)])), aJ g (Gζ 0) 11 (fun _ => 0), aJ g (Gζ 1) 11 (fun _ => 0), aI g (Gζ 2) 61 (fun _ => 0)]) := by
  refine gMet_v (cc := cX0_init) (maxL := 1) (ret := none) (by decide) rfl (Nat.le_of_ble_eq_true rfl) ?_
  intro p e s m args below meth c Z hx hb hr F hlk hnm hK hN hA H locs hP hD hS ls hl
  have hl : lv_has ls 1 [(0, .ref hζ)] := hl
  have F : CallFix p m c cX0_init 1 s args wsX0_init RX0 := F
  have hts := F.2.2.2.2
  have hown : s.vm.findClass RX0 = some m.cls := F.2.2.2.1
  have hi0 : ∀ w ∈ u_ws RX0 TX0 3, w ∈ wsX0_init := by decide +kernel
  refine lv_aload_n hx hb dX0_init_0 rfl (lv_at hl 0 rfl) ?_
  refine W.objInit hx hb hown (hts (.methodLink RX0 3 objectInit) (by decide +kernel)) (hts (.instanceMethod objectInit) (by decide +kernel)) (hts (.code objectInit ⟨#[0xb1]⟩ 1 none) (by decide +kernel)) rfl (by rw [F.2.2.1]; exact hl.1) rfl dX0_init_1 (Nat.le_of_ble_eq_true rfl) (Nat.le_of_ble_eq_true rfl) ?_
  refine W.eq (g2 := F0 m 4 ls []) rfl ?_
  refine lv_aload_n hx hb dX0_init_4 rfl (lv_at hl 0 rfl) ?_
  refine lv_bipush (v := 11) hx hb dX0_init_5 (by decide) ?_
  refine r_newJ (N' := 11) hx hb (hts (.arrayClass .long) (by decide +kernel)) hK hP hD hS hA (by decide) (nI_clamp (n := 11) (by decide)) (Nat.le_of_ble_eq_true rfl) (Nat.le_of_ble_eq_true rfl) (Nat.le_of_ble_eq_true rfl) dX0_init_7 (fun q_1 H hP hD hS => ?_)
  have hP : va_P g.1 vwCl [(hζ, .inr (0, [.null, .null, .null])), aJ g q_1 11 (fun _ => 0)] H := hP
  have hD : va_D Z [(hζ, .inr (0, [.null, .null, .null])), aJ g q_1 11 (fun _ => 0)] := hD
  refine W.widen (k := 1) (n := 11) (by decide) (by decide) ?_
  refine va_putF (D := g.1) (ci := 0) (v := .ref q_1) (ty := (.array .long)) (C := RX0) (T := TX0) (N := 3) hx hb hts hi0 tyX0 tyX0_ok nmX0 hown hK hP hD hS 0 rfl rfl 0 (by decide) (hts (.fieldLink RX0 9 "PanTales$Chances" "lastDoes" "[J") (by decide +kernel)) (fun _ h9 => h9) rfl hnm rfl (by decide +kernel) rfl rfl (Nat.le_of_ble_eq_true rfl) dX0_init_9 (fun H locs hP hD hS => ?_)
  have hP : va_P g.1 vwCl [(hζ, .inr (0, [.ref q_1, .null, .null])), aJ g q_1 11 (fun _ => 0)] H := hP
  have hD : va_D Z [(hζ, .inr (0, [.ref q_1, .null, .null])), aJ g q_1 11 (fun _ => 0)] := hD
  refine lv_aload_n hx hb dX0_init_12 rfl (lv_at hl 0 rfl) ?_
  refine lv_bipush (v := 11) hx hb dX0_init_13 (by decide) ?_
  refine r_newJ (N' := 11) hx hb (hts (.arrayClass .long) (by decide +kernel)) hK hP hD hS hA (by decide) (nI_clamp (n := 11) (by decide)) (Nat.le_of_ble_eq_true rfl) (Nat.le_of_ble_eq_true rfl) (Nat.le_of_ble_eq_true rfl) dX0_init_15 (fun q_2 H hP hD hS => ?_)
  have hP : va_P g.1 vwCl [(hζ, .inr (0, [.ref q_1, .null, .null])), aJ g q_1 11 (fun _ => 0), aJ g q_2 11 (fun _ => 0)] H := hP
  have hD : va_D Z [(hζ, .inr (0, [.ref q_1, .null, .null])), aJ g q_1 11 (fun _ => 0), aJ g q_2 11 (fun _ => 0)] := hD
  refine W.widen (k := 2) (n := 22) (by decide) (by decide) ?_
  refine va_putF (D := g.1) (ci := 0) (v := .ref q_2) (ty := (.array .long)) (C := RX0) (T := TX0) (N := 3) hx hb hts hi0 tyX0 tyX0_ok nmX0 hown hK hP hD hS 0 rfl rfl 1 (by decide) (hts (.fieldLink RX0 15 "PanTales$Chances" "lastNot" "[J") (by decide +kernel)) (fun _ h9 => h9) rfl hnm rfl (by decide +kernel) rfl rfl (Nat.le_of_ble_eq_true rfl) dX0_init_17 (fun H locs hP hD hS => ?_)
  have hP : va_P g.1 vwCl [(hζ, .inr (0, [.ref q_1, .ref q_2, .null])), aJ g q_1 11 (fun _ => 0), aJ g q_2 11 (fun _ => 0)] H := hP
  have hD : va_D Z [(hζ, .inr (0, [.ref q_1, .ref q_2, .null])), aJ g q_1 11 (fun _ => 0), aJ g q_2 11 (fun _ => 0)] := hD
  refine lv_aload_n hx hb dX0_init_20 rfl (lv_at hl 0 rfl) ?_
  refine lv_bipush (v := 61) hx hb dX0_init_21 (by decide) ?_
  refine r_newI (N' := 61) hx hb (hts (.arrayClass .int) (by decide +kernel)) hK hP hD hS hA (by decide) (nI_clamp (n := 61) (by decide)) (Nat.le_of_ble_eq_true rfl) (Nat.le_of_ble_eq_true rfl) (Nat.le_of_ble_eq_true rfl) dX0_init_23 (fun q_3 H hP hD hS => ?_)
  have hP : va_P g.1 vwCl [(hζ, .inr (0, [.ref q_1, .ref q_2, .null])), aJ g q_1 11 (fun _ => 0), aJ g q_2 11 (fun _ => 0), aI g q_3 61 (fun _ => 0)] H := hP
  have hD : va_D Z [(hζ, .inr (0, [.ref q_1, .ref q_2, .null])), aJ g q_1 11 (fun _ => 0), aJ g q_2 11 (fun _ => 0), aI g q_3 61 (fun _ => 0)] := hD
  refine W.widen (k := 3) (n := 83) (by decide) (by decide) ?_
  refine va_putF (D := g.1) (ci := 0) (v := .ref q_3) (ty := (.array .int)) (C := RX0) (T := TX0) (N := 3) hx hb hts hi0 tyX0 tyX0_ok nmX0 hown hK hP hD hS 0 rfl rfl 2 (by decide) (hts (.fieldLink RX0 18 "PanTales$Chances" "takes" "[I") (by decide +kernel)) (fun _ h9 => h9) rfl hnm rfl (by decide +kernel) rfl rfl (Nat.le_of_ble_eq_true rfl) dX0_init_25 (fun H locs hP hD hS => ?_)
  have hP : va_P g.1 vwCl [(hζ, .inr (0, [.ref q_1, .ref q_2, .ref q_3])), aJ g q_1 11 (fun _ => 0), aJ g q_2 11 (fun _ => 0), aI g q_3 61 (fun _ => 0)] H := hP
  have hD : va_D Z [(hζ, .inr (0, [.ref q_1, .ref q_2, .ref q_3])), aJ g q_1 11 (fun _ => 0), aJ g q_2 11 (fun _ => 0), aI g q_3 61 (fun _ => 0)] := hD
  exact r_vret hx hb hr hlk hS (mkA [q_1, q_2, q_3]) trivial (hP.sub [0, 1, 2, 3] rfl) (hD.sub [0, 1, 2, 3] (by decide) rfl) dX0_init_28
set_option maxHeartbeats 4000000 in
set_option maxRecDepth 100000 in
theorem c_X6_init (l : Launch) (g : GT) (sz : Nat) (hζ : Nat) : Mv (S := Nat → Nat → Nat) l yX6_init wsX6_init { frames := 2, cells := 31, slots := 1143, locals := 61 } g sz [.ref hζ] [(hζ, .inr (6, [.null, .null, .null, .null, .null, .null, .null, .null]))] 31 1143 (fun _ => True) (fun Eζ => [(hζ, .inr (6, [.ref (Eζ 0 0), .ref (Eζ 0 1), .ref (Eζ 0 2), .ref (Eζ 0 3), .ref (Eζ 0 4), .ref (Eζ 0 5), .ref (Eζ 0 6), .ref (Eζ 0 7)])), (Eζ 0 0, .inr (1, oC (Eζ 1) iC0)), aI g ((Eζ 1) 0) 121 (fun _ => 0), aI g ((Eζ 1) 1) 10 (fun _ => 5), aI g ((Eζ 1) 2) 10 (fun _ => 0), aI g ((Eζ 1) 3) 10 (fun _ => (-6)), aI g ((Eζ 1) 4) 10 (fun j => nI j), aI g ((Eζ 1) 5) 8 (fun _ => 0), aI g ((Eζ 1) 6) 8 (fun _ => 0), (Eζ 0 1, .inr (1, oC (Eζ 2) iC0)), aI g ((Eζ 2) 0) 121 (fun _ => 0), aI g ((Eζ 2) 1) 10 (fun _ => 5), aI g ((Eζ 2) 2) 10 (fun _ => 0), aI g ((Eζ 2) 3) 10 (fun _ => (-6)), aI g ((Eζ 2) 4) 10 (fun j => nI j), aI g ((Eζ 2) 5) 8 (fun _ => 0), aI g ((Eζ 2) 6) 8 (fun _ => 0), aQ g (Eζ 0 2) 2 (fun _ => none), (Eζ 0 3, .inr (3, [.ref (Eζ 3 0), .int 0])), aI g (Eζ 3 0) 60 (fun _ => 0), (Eζ 0 4, .inr (2, [.int 0, .int 0, .int 0, .int 0, .int 0, .int 0])), (Eζ 0 5, .inr (5, [.ref (Eζ 5 0), .ref (Eζ 5 1), .null])), aI g (Eζ 5 0) 121 (fun _ => 0), aI g (Eζ 5 1) 11 (fun _ => 0), (Eζ 0 6, .inr (4, [.ref (Eζ 6 0), .ref (Eζ 6 1), .ref (Eζ 6 2), .int 0])), aI g (Eζ 6 0) 410 (fun _ => 0), aI g (Eζ 6 1) 50 (fun _ => 0), aI g (Eζ 6 2) 10 (fun _ => 0), (Eζ 0 7, .inr (0, [.ref (Eζ 7 0), .ref (Eζ 7 1), .ref (Eζ 7 2)])), aJ g (Eζ 7 0) 11 (fun _ => 0), aJ g (Eζ 7 1) 11 (fun _ => 0), aI g (Eζ 7 2) 61 (fun _ => 0)]) := by
  refine gMet_v (cc := cX6_init) (maxL := 1) (ret := none) (by decide) rfl (Nat.le_of_ble_eq_true rfl) ?_
  intro p e s m args below meth c Z hx hb hr F hlk hnm hK hN hA H locs hP hD hS ls hl
  have hl : lv_has ls 1 [(0, .ref hζ)] := hl
  have F : CallFix p m c cX6_init 1 s args wsX6_init RX6 := F
  have hts := F.2.2.2.2
  have hown : s.vm.findClass RX6 = some m.cls := F.2.2.2.1
  have hi0 : ∀ w ∈ u_ws RX0 TX0 3, w ∈ wsX6_init := by decide +kernel
  have hi1 : ∀ w ∈ u_ws RX1 TX1 12, w ∈ wsX6_init := by decide +kernel
  have hi2 : ∀ w ∈ u_ws RX2 TX2 6, w ∈ wsX6_init := by decide +kernel
  have hi3 : ∀ w ∈ u_ws RX3 TX3 2, w ∈ wsX6_init := by decide +kernel
  have hi4 : ∀ w ∈ u_ws RX4 TX4 4, w ∈ wsX6_init := by decide +kernel
  have hi5 : ∀ w ∈ u_ws RX5 TX5 3, w ∈ wsX6_init := by decide +kernel
  have hi6 : ∀ w ∈ u_ws RX6 TX6 8, w ∈ wsX6_init := by decide +kernel
  refine lv_aload_n hx hb dX6_init_0 rfl (lv_at hl 0 rfl) ?_
  refine W.objInit hx hb hown (hts (.methodLink RX6 3 objectInit) (by decide +kernel)) (hts (.instanceMethod objectInit) (by decide +kernel)) (hts (.code objectInit ⟨#[0xb1]⟩ 1 none) (by decide +kernel)) rfl (by rw [F.2.2.1]; exact hl.1) rfl dX6_init_1 (Nat.le_of_ble_eq_true rfl) (Nat.le_of_ble_eq_true rfl) ?_
  refine W.eq (g2 := F0 m 4 ls []) rfl ?_
  refine lv_aload_n hx hb dX6_init_4 rfl (lv_at hl 0 rfl) ?_
  refine va_new (D := g.1) (ci := 1) (fs := [.null, .null, .null, .null, .null, .null, .null, .int 0, .int 0, .int 0, .int 0, .int 0]) (C := RX1) (T := TX1) (N := 12) hx hb hts hi1 tyX1 tyX1_ok hown (hts (.classLink RX6 9 RX1) (by decide +kernel)) (hts (.instantiable RX1 12) (by decide +kernel)) (hts (.initialized RX1) (by decide +kernel)) hK hP hD hS hA rfl (by decide +kernel) (Nat.le_of_ble_eq_true rfl) (Nat.le_of_ble_eq_true rfl) dX6_init_5 (fun q_1 H hP hD hS => ?_)
  have hP : va_P g.1 vwCl [(hζ, .inr (6, [.null, .null, .null, .null, .null, .null, .null, .null])), (q_1, .inr (1, [.null, .null, .null, .null, .null, .null, .null, .int 0, .int 0, .int 0, .int 0, .int 0]))] H := hP
  have hD : va_D Z [(hζ, .inr (6, [.null, .null, .null, .null, .null, .null, .null, .null])), (q_1, .inr (1, [.null, .null, .null, .null, .null, .null, .null, .int 0, .int 0, .int 0, .int 0, .int 0]))] := hD
  refine W.widen (k := 1) (n := 12) (by decide) (by decide) ?_
  refine lv_dup hx hb dX6_init_8 rfl ?_
  refine gcI_v (As := []) (rest := [.ref q_1, .ref hζ]) F hK hN hP hD hS hA (c_X1_init l g H.size q_1) gX6_init_X1_init kX1_init rfl (hts (.initialized RX1) (by decide +kernel)) (hts (.methodLink RX6 11 yX1_init) (by decide +kernel)) (hts (.instanceMethod yX1_init) (by decide +kernel)) rfl rfl rfl ⟨(Nat.le_of_ble_eq_true rfl), (Nat.le_of_ble_eq_true rfl)⟩ [1] [0] rfl rfl rfl (by decide) rfl rfl rfl hl.1 (Nat.le_of_ble_eq_true rfl) dX6_init_9 ⟨(Nat.le_of_ble_eq_true rfl), (Nat.le_of_ble_eq_true rfl)⟩ (fun u_w H locs hw hP hD hS => ?_)
  refine W.widen (k := 8) (n := 189) (by decide) (by decide) ?_
  obtain ⟨A_2, rfl⟩ : ∃ z, z = u_w := ⟨_, rfl⟩
  have hw_3 := hw
  have hP : va_P g.1 vwCl [(hζ, .inr (6, [.null, .null, .null, .null, .null, .null, .null, .null])), (q_1, .inr (1, oC A_2 iC0)), aI g (A_2 0) 121 (fun _ => 0), aI g (A_2 1) 10 (fun _ => 5), aI g (A_2 2) 10 (fun _ => 0), aI g (A_2 3) 10 (fun _ => (-6)), aI g (A_2 4) 10 (fun j => nI j), aI g (A_2 5) 8 (fun _ => 0), aI g (A_2 6) 8 (fun _ => 0)] H := hP
  have hD : va_D Z [(hζ, .inr (6, [.null, .null, .null, .null, .null, .null, .null, .null])), (q_1, .inr (1, oC A_2 iC0)), aI g (A_2 0) 121 (fun _ => 0), aI g (A_2 1) 10 (fun _ => 5), aI g (A_2 2) 10 (fun _ => 0), aI g (A_2 3) 10 (fun _ => (-6)), aI g (A_2 4) 10 (fun j => nI j), aI g (A_2 5) 8 (fun _ => 0), aI g (A_2 6) 8 (fun _ => 0)] := hD
  refine va_putF (D := g.1) (ci := 6) (v := .ref q_1) (ty := (.object "PanTales$Close")) (C := RX6) (T := TX6) (N := 8) hx hb hts hi6 tyX6 tyX6_ok nmX6 hown hK hP hD hS 0 rfl rfl 0 (by decide) (hts (.fieldLink RX6 12 "PanTales" "close" "LPanTales$Close;") (by decide +kernel)) (fun _ h9 => h9) rfl hnm rfl (by decide +kernel) rfl rfl (Nat.le_of_ble_eq_true rfl) dX6_init_12 (fun H locs hP hD hS => ?_)
  have hP : va_P g.1 vwCl [(hζ, .inr (6, [.ref q_1, .null, .null, .null, .null, .null, .null, .null])), (q_1, .inr (1, oC A_2 iC0)), aI g (A_2 0) 121 (fun _ => 0), aI g (A_2 1) 10 (fun _ => 5), aI g (A_2 2) 10 (fun _ => 0), aI g (A_2 3) 10 (fun _ => (-6)), aI g (A_2 4) 10 (fun j => nI j), aI g (A_2 5) 8 (fun _ => 0), aI g (A_2 6) 8 (fun _ => 0)] H := hP
  have hD : va_D Z [(hζ, .inr (6, [.ref q_1, .null, .null, .null, .null, .null, .null, .null])), (q_1, .inr (1, oC A_2 iC0)), aI g (A_2 0) 121 (fun _ => 0), aI g (A_2 1) 10 (fun _ => 5), aI g (A_2 2) 10 (fun _ => 0), aI g (A_2 3) 10 (fun _ => (-6)), aI g (A_2 4) 10 (fun j => nI j), aI g (A_2 5) 8 (fun _ => 0), aI g (A_2 6) 8 (fun _ => 0)] := hD
  refine lv_aload_n hx hb dX6_init_15 rfl (lv_at hl 0 rfl) ?_
  refine va_new (D := g.1) (ci := 1) (fs := [.null, .null, .null, .null, .null, .null, .null, .int 0, .int 0, .int 0, .int 0, .int 0]) (C := RX1) (T := TX1) (N := 12) hx hb hts hi1 tyX1 tyX1_ok hown (hts (.classLink RX6 9 RX1) (by decide +kernel)) (hts (.instantiable RX1 12) (by decide +kernel)) (hts (.initialized RX1) (by decide +kernel)) hK hP hD hS hA rfl (by decide +kernel) (Nat.le_of_ble_eq_true rfl) (Nat.le_of_ble_eq_true rfl) dX6_init_16 (fun q_4 H hP hD hS => ?_)
  have hP : va_P g.1 vwCl [(hζ, .inr (6, [.ref q_1, .null, .null, .null, .null, .null, .null, .null])), (q_1, .inr (1, oC A_2 iC0)), aI g (A_2 0) 121 (fun _ => 0), aI g (A_2 1) 10 (fun _ => 5), aI g (A_2 2) 10 (fun _ => 0), aI g (A_2 3) 10 (fun _ => (-6)), aI g (A_2 4) 10 (fun j => nI j), aI g (A_2 5) 8 (fun _ => 0), aI g (A_2 6) 8 (fun _ => 0), (q_4, .inr (1, [.null, .null, .null, .null, .null, .null, .null, .int 0, .int 0, .int 0, .int 0, .int 0]))] H := hP
  have hD : va_D Z [(hζ, .inr (6, [.ref q_1, .null, .null, .null, .null, .null, .null, .null])), (q_1, .inr (1, oC A_2 iC0)), aI g (A_2 0) 121 (fun _ => 0), aI g (A_2 1) 10 (fun _ => 5), aI g (A_2 2) 10 (fun _ => 0), aI g (A_2 3) 10 (fun _ => (-6)), aI g (A_2 4) 10 (fun j => nI j), aI g (A_2 5) 8 (fun _ => 0), aI g (A_2 6) 8 (fun _ => 0), (q_4, .inr (1, [.null, .null, .null, .null, .null, .null, .null, .int 0, .int 0, .int 0, .int 0, .int 0]))] := hD
  refine W.widen (k := 9) (n := 201) (by decide) (by decide) ?_
  refine lv_dup hx hb dX6_init_19 rfl ?_
  refine gcI_v (As := []) (rest := [.ref q_4, .ref hζ]) F hK hN hP hD hS hA (c_X1_init l g H.size q_4) gX6_init_X1_init kX1_init rfl (hts (.initialized RX1) (by decide +kernel)) (hts (.methodLink RX6 11 yX1_init) (by decide +kernel)) (hts (.instanceMethod yX1_init) (by decide +kernel)) rfl rfl rfl ⟨(Nat.le_of_ble_eq_true rfl), (Nat.le_of_ble_eq_true rfl)⟩ [9] [0, 1, 2, 3, 4, 5, 6, 7, 8] rfl rfl rfl (by decide) rfl rfl rfl hl.1 (Nat.le_of_ble_eq_true rfl) dX6_init_20 ⟨(Nat.le_of_ble_eq_true rfl), (Nat.le_of_ble_eq_true rfl)⟩ (fun u_w H locs hw hP hD hS => ?_)
  refine W.widen (k := 16) (n := 378) (by decide) (by decide) ?_
  obtain ⟨A_5, rfl⟩ : ∃ z, z = u_w := ⟨_, rfl⟩
  have hw_6 := hw
  have hP : va_P g.1 vwCl [(hζ, .inr (6, [.ref q_1, .null, .null, .null, .null, .null, .null, .null])), (q_1, .inr (1, oC A_2 iC0)), aI g (A_2 0) 121 (fun _ => 0), aI g (A_2 1) 10 (fun _ => 5), aI g (A_2 2) 10 (fun _ => 0), aI g (A_2 3) 10 (fun _ => (-6)), aI g (A_2 4) 10 (fun j => nI j), aI g (A_2 5) 8 (fun _ => 0), aI g (A_2 6) 8 (fun _ => 0), (q_4, .inr (1, oC A_5 iC0)), aI g (A_5 0) 121 (fun _ => 0), aI g (A_5 1) 10 (fun _ => 5), aI g (A_5 2) 10 (fun _ => 0), aI g (A_5 3) 10 (fun _ => (-6)), aI g (A_5 4) 10 (fun j => nI j), aI g (A_5 5) 8 (fun _ => 0), aI g (A_5 6) 8 (fun _ => 0)] H := hP
  have hD : va_D Z [(hζ, .inr (6, [.ref q_1, .null, .null, .null, .null, .null, .null, .null])), (q_1, .inr (1, oC A_2 iC0)), aI g (A_2 0) 121 (fun _ => 0), aI g (A_2 1) 10 (fun _ => 5), aI g (A_2 2) 10 (fun _ => 0), aI g (A_2 3) 10 (fun _ => (-6)), aI g (A_2 4) 10 (fun j => nI j), aI g (A_2 5) 8 (fun _ => 0), aI g (A_2 6) 8 (fun _ => 0), (q_4, .inr (1, oC A_5 iC0)), aI g (A_5 0) 121 (fun _ => 0), aI g (A_5 1) 10 (fun _ => 5), aI g (A_5 2) 10 (fun _ => 0), aI g (A_5 3) 10 (fun _ => (-6)), aI g (A_5 4) 10 (fun j => nI j), aI g (A_5 5) 8 (fun _ => 0), aI g (A_5 6) 8 (fun _ => 0)] := hD
  refine va_putF (D := g.1) (ci := 6) (v := .ref q_4) (ty := (.object "PanTales$Close")) (C := RX6) (T := TX6) (N := 8) hx hb hts hi6 tyX6 tyX6_ok nmX6 hown hK hP hD hS 0 rfl rfl 1 (by decide) (hts (.fieldLink RX6 16 "PanTales" "draft" "LPanTales$Close;") (by decide +kernel)) (fun _ h9 => h9) rfl hnm rfl (by decide +kernel) rfl rfl (Nat.le_of_ble_eq_true rfl) dX6_init_23 (fun H locs hP hD hS => ?_)
  have hP : va_P g.1 vwCl [(hζ, .inr (6, [.ref q_1, .ref q_4, .null, .null, .null, .null, .null, .null])), (q_1, .inr (1, oC A_2 iC0)), aI g (A_2 0) 121 (fun _ => 0), aI g (A_2 1) 10 (fun _ => 5), aI g (A_2 2) 10 (fun _ => 0), aI g (A_2 3) 10 (fun _ => (-6)), aI g (A_2 4) 10 (fun j => nI j), aI g (A_2 5) 8 (fun _ => 0), aI g (A_2 6) 8 (fun _ => 0), (q_4, .inr (1, oC A_5 iC0)), aI g (A_5 0) 121 (fun _ => 0), aI g (A_5 1) 10 (fun _ => 5), aI g (A_5 2) 10 (fun _ => 0), aI g (A_5 3) 10 (fun _ => (-6)), aI g (A_5 4) 10 (fun j => nI j), aI g (A_5 5) 8 (fun _ => 0), aI g (A_5 6) 8 (fun _ => 0)] H := hP
  have hD : va_D Z [(hζ, .inr (6, [.ref q_1, .ref q_4, .null, .null, .null, .null, .null, .null])), (q_1, .inr (1, oC A_2 iC0)), aI g (A_2 0) 121 (fun _ => 0), aI g (A_2 1) 10 (fun _ => 5), aI g (A_2 2) 10 (fun _ => 0), aI g (A_2 3) 10 (fun _ => (-6)), aI g (A_2 4) 10 (fun j => nI j), aI g (A_2 5) 8 (fun _ => 0), aI g (A_2 6) 8 (fun _ => 0), (q_4, .inr (1, oC A_5 iC0)), aI g (A_5 0) 121 (fun _ => 0), aI g (A_5 1) 10 (fun _ => 5), aI g (A_5 2) 10 (fun _ => 0), aI g (A_5 3) 10 (fun _ => (-6)), aI g (A_5 4) 10 (fun j => nI j), aI g (A_5 5) 8 (fun _ => 0), aI g (A_5 6) 8 (fun _ => 0)] := hD
  refine lv_aload_n hx hb dX6_init_26 rfl (lv_at hl 0 rfl) ?_
  refine lv_iconst (v := 2) hx hb dX6_init_27 (by decide) ?_
  refine r_newQ (N' := 2) hx hb hown (hts (.classLink RX6 9 RX1) (by decide +kernel)) hN.2 hK hP hD hS hA (by decide) (nI_clamp (n := 2) (by decide)) (Nat.le_of_ble_eq_true rfl) (Nat.le_of_ble_eq_true rfl) (Nat.le_of_ble_eq_true rfl) dX6_init_28 (fun q_7 H hP hD hS => ?_)
  have hP : va_P g.1 vwCl [(hζ, .inr (6, [.ref q_1, .ref q_4, .null, .null, .null, .null, .null, .null])), (q_1, .inr (1, oC A_2 iC0)), aI g (A_2 0) 121 (fun _ => 0), aI g (A_2 1) 10 (fun _ => 5), aI g (A_2 2) 10 (fun _ => 0), aI g (A_2 3) 10 (fun _ => (-6)), aI g (A_2 4) 10 (fun j => nI j), aI g (A_2 5) 8 (fun _ => 0), aI g (A_2 6) 8 (fun _ => 0), (q_4, .inr (1, oC A_5 iC0)), aI g (A_5 0) 121 (fun _ => 0), aI g (A_5 1) 10 (fun _ => 5), aI g (A_5 2) 10 (fun _ => 0), aI g (A_5 3) 10 (fun _ => (-6)), aI g (A_5 4) 10 (fun j => nI j), aI g (A_5 5) 8 (fun _ => 0), aI g (A_5 6) 8 (fun _ => 0), aQ g q_7 2 (fun _ => none)] H := hP
  have hD : va_D Z [(hζ, .inr (6, [.ref q_1, .ref q_4, .null, .null, .null, .null, .null, .null])), (q_1, .inr (1, oC A_2 iC0)), aI g (A_2 0) 121 (fun _ => 0), aI g (A_2 1) 10 (fun _ => 5), aI g (A_2 2) 10 (fun _ => 0), aI g (A_2 3) 10 (fun _ => (-6)), aI g (A_2 4) 10 (fun j => nI j), aI g (A_2 5) 8 (fun _ => 0), aI g (A_2 6) 8 (fun _ => 0), (q_4, .inr (1, oC A_5 iC0)), aI g (A_5 0) 121 (fun _ => 0), aI g (A_5 1) 10 (fun _ => 5), aI g (A_5 2) 10 (fun _ => 0), aI g (A_5 3) 10 (fun _ => (-6)), aI g (A_5 4) 10 (fun j => nI j), aI g (A_5 5) 8 (fun _ => 0), aI g (A_5 6) 8 (fun _ => 0), aQ g q_7 2 (fun _ => none)] := hD
  refine W.widen (k := 17) (n := 380) (by decide) (by decide) ?_
  refine va_putF (D := g.1) (ci := 6) (v := .ref q_7) (ty := (.array (.object "PanTales$Close"))) (C := RX6) (T := TX6) (N := 8) hx hb hts hi6 tyX6 tyX6_ok nmX6 hown hK hP hD hS 0 rfl rfl 2 (by decide) (hts (.fieldLink RX6 19 "PanTales" "images" "[LPanTales$Close;") (by decide +kernel)) (fun _ h9 => h9) rfl hnm rfl (by decide +kernel) rfl rfl (Nat.le_of_ble_eq_true rfl) dX6_init_31 (fun H locs hP hD hS => ?_)
  have hP : va_P g.1 vwCl [(hζ, .inr (6, [.ref q_1, .ref q_4, .ref q_7, .null, .null, .null, .null, .null])), (q_1, .inr (1, oC A_2 iC0)), aI g (A_2 0) 121 (fun _ => 0), aI g (A_2 1) 10 (fun _ => 5), aI g (A_2 2) 10 (fun _ => 0), aI g (A_2 3) 10 (fun _ => (-6)), aI g (A_2 4) 10 (fun j => nI j), aI g (A_2 5) 8 (fun _ => 0), aI g (A_2 6) 8 (fun _ => 0), (q_4, .inr (1, oC A_5 iC0)), aI g (A_5 0) 121 (fun _ => 0), aI g (A_5 1) 10 (fun _ => 5), aI g (A_5 2) 10 (fun _ => 0), aI g (A_5 3) 10 (fun _ => (-6)), aI g (A_5 4) 10 (fun j => nI j), aI g (A_5 5) 8 (fun _ => 0), aI g (A_5 6) 8 (fun _ => 0), aQ g q_7 2 (fun _ => none)] H := hP
  have hD : va_D Z [(hζ, .inr (6, [.ref q_1, .ref q_4, .ref q_7, .null, .null, .null, .null, .null])), (q_1, .inr (1, oC A_2 iC0)), aI g (A_2 0) 121 (fun _ => 0), aI g (A_2 1) 10 (fun _ => 5), aI g (A_2 2) 10 (fun _ => 0), aI g (A_2 3) 10 (fun _ => (-6)), aI g (A_2 4) 10 (fun j => nI j), aI g (A_2 5) 8 (fun _ => 0), aI g (A_2 6) 8 (fun _ => 0), (q_4, .inr (1, oC A_5 iC0)), aI g (A_5 0) 121 (fun _ => 0), aI g (A_5 1) 10 (fun _ => 5), aI g (A_5 2) 10 (fun _ => 0), aI g (A_5 3) 10 (fun _ => (-6)), aI g (A_5 4) 10 (fun j => nI j), aI g (A_5 5) 8 (fun _ => 0), aI g (A_5 6) 8 (fun _ => 0), aQ g q_7 2 (fun _ => none)] := hD
  refine lv_aload_n hx hb dX6_init_34 rfl (lv_at hl 0 rfl) ?_
  refine va_new (D := g.1) (ci := 3) (fs := [.null, .int 0]) (C := RX3) (T := TX3) (N := 2) hx hb hts hi3 tyX3 tyX3_ok hown (hts (.classLink RX6 23 RX3) (by decide +kernel)) (hts (.instantiable RX3 2) (by decide +kernel)) (hts (.initialized RX3) (by decide +kernel)) hK hP hD hS hA rfl (by decide +kernel) (Nat.le_of_ble_eq_true rfl) (Nat.le_of_ble_eq_true rfl) dX6_init_35 (fun q_8 H hP hD hS => ?_)
  have hP : va_P g.1 vwCl [(hζ, .inr (6, [.ref q_1, .ref q_4, .ref q_7, .null, .null, .null, .null, .null])), (q_1, .inr (1, oC A_2 iC0)), aI g (A_2 0) 121 (fun _ => 0), aI g (A_2 1) 10 (fun _ => 5), aI g (A_2 2) 10 (fun _ => 0), aI g (A_2 3) 10 (fun _ => (-6)), aI g (A_2 4) 10 (fun j => nI j), aI g (A_2 5) 8 (fun _ => 0), aI g (A_2 6) 8 (fun _ => 0), (q_4, .inr (1, oC A_5 iC0)), aI g (A_5 0) 121 (fun _ => 0), aI g (A_5 1) 10 (fun _ => 5), aI g (A_5 2) 10 (fun _ => 0), aI g (A_5 3) 10 (fun _ => (-6)), aI g (A_5 4) 10 (fun j => nI j), aI g (A_5 5) 8 (fun _ => 0), aI g (A_5 6) 8 (fun _ => 0), aQ g q_7 2 (fun _ => none), (q_8, .inr (3, [.null, .int 0]))] H := hP
  have hD : va_D Z [(hζ, .inr (6, [.ref q_1, .ref q_4, .ref q_7, .null, .null, .null, .null, .null])), (q_1, .inr (1, oC A_2 iC0)), aI g (A_2 0) 121 (fun _ => 0), aI g (A_2 1) 10 (fun _ => 5), aI g (A_2 2) 10 (fun _ => 0), aI g (A_2 3) 10 (fun _ => (-6)), aI g (A_2 4) 10 (fun j => nI j), aI g (A_2 5) 8 (fun _ => 0), aI g (A_2 6) 8 (fun _ => 0), (q_4, .inr (1, oC A_5 iC0)), aI g (A_5 0) 121 (fun _ => 0), aI g (A_5 1) 10 (fun _ => 5), aI g (A_5 2) 10 (fun _ => 0), aI g (A_5 3) 10 (fun _ => (-6)), aI g (A_5 4) 10 (fun j => nI j), aI g (A_5 5) 8 (fun _ => 0), aI g (A_5 6) 8 (fun _ => 0), aQ g q_7 2 (fun _ => none), (q_8, .inr (3, [.null, .int 0]))] := hD
  refine W.widen (k := 18) (n := 382) (by decide) (by decide) ?_
  refine lv_dup hx hb dX6_init_38 rfl ?_
  refine gcIN_v (As := []) (rest := [.ref q_8, .ref hζ]) F hK hN hP hD hS hA (c_X3_init l g H.size q_8) gX6_init_X3_init_n25 kX3_init rfl (hts (.initialized RX3) (by decide +kernel)) (hN.get 0 rfl) (hts (.instanceMethod yX3_init) (by decide +kernel)) rfl rfl rfl ⟨(Nat.le_of_ble_eq_true rfl), (Nat.le_of_ble_eq_true rfl)⟩ [18] [0, 1, 2, 3, 4, 5, 6, 7, 8, 9, 10, 11, 12, 13, 14, 15, 16, 17] rfl rfl rfl (by decide) rfl rfl rfl hl.1 (Nat.le_of_ble_eq_true rfl) dX6_init_39 ⟨(Nat.le_of_ble_eq_true rfl), (Nat.le_of_ble_eq_true rfl)⟩ (fun u_w H locs hw hP hD hS => ?_)
  refine W.widen (k := 19) (n := 442) (by decide) (by decide) ?_
  obtain ⟨a_9, rfl⟩ : ∃ z, z = u_w := ⟨_, rfl⟩
  have hw_10 := hw
  have hP : va_P g.1 vwCl [(hζ, .inr (6, [.ref q_1, .ref q_4, .ref q_7, .null, .null, .null, .null, .null])), (q_1, .inr (1, oC A_2 iC0)), aI g (A_2 0) 121 (fun _ => 0), aI g (A_2 1) 10 (fun _ => 5), aI g (A_2 2) 10 (fun _ => 0), aI g (A_2 3) 10 (fun _ => (-6)), aI g (A_2 4) 10 (fun j => nI j), aI g (A_2 5) 8 (fun _ => 0), aI g (A_2 6) 8 (fun _ => 0), (q_4, .inr (1, oC A_5 iC0)), aI g (A_5 0) 121 (fun _ => 0), aI g (A_5 1) 10 (fun _ => 5), aI g (A_5 2) 10 (fun _ => 0), aI g (A_5 3) 10 (fun _ => (-6)), aI g (A_5 4) 10 (fun j => nI j), aI g (A_5 5) 8 (fun _ => 0), aI g (A_5 6) 8 (fun _ => 0), aQ g q_7 2 (fun _ => none), (q_8, .inr (3, [.ref a_9, .int 0])), aI g a_9 60 (fun _ => 0)] H := hP
  have hD : va_D Z [(hζ, .inr (6, [.ref q_1, .ref q_4, .ref q_7, .null, .null, .null, .null, .null])), (q_1, .inr (1, oC A_2 iC0)), aI g (A_2 0) 121 (fun _ => 0), aI g (A_2 1) 10 (fun _ => 5), aI g (A_2 2) 10 (fun _ => 0), aI g (A_2 3) 10 (fun _ => (-6)), aI g (A_2 4) 10 (fun j => nI j), aI g (A_2 5) 8 (fun _ => 0), aI g (A_2 6) 8 (fun _ => 0), (q_4, .inr (1, oC A_5 iC0)), aI g (A_5 0) 121 (fun _ => 0), aI g (A_5 1) 10 (fun _ => 5), aI g (A_5 2) 10 (fun _ => 0), aI g (A_5 3) 10 (fun _ => (-6)), aI g (A_5 4) 10 (fun j => nI j), aI g (A_5 5) 8 (fun _ => 0), aI g (A_5 6) 8 (fun _ => 0), aQ g q_7 2 (fun _ => none), (q_8, .inr (3, [.ref a_9, .int 0])), aI g a_9 60 (fun _ => 0)] := hD
  refine va_putF (D := g.1) (ci := 6) (v := .ref q_8) (ty := (.object "PanTales$Pad")) (C := RX6) (T := TX6) (N := 8) hx hb hts hi6 tyX6 tyX6_ok nmX6 hown hK hP hD hS 0 rfl rfl 3 (by decide) (hts (.fieldLink RX6 26 "PanTales" "pad" "LPanTales$Pad;") (by decide +kernel)) (fun _ h9 => h9) rfl hnm rfl (by decide +kernel) rfl rfl (Nat.le_of_ble_eq_true rfl) dX6_init_42 (fun H locs hP hD hS => ?_)
  have hP : va_P g.1 vwCl [(hζ, .inr (6, [.ref q_1, .ref q_4, .ref q_7, .ref q_8, .null, .null, .null, .null])), (q_1, .inr (1, oC A_2 iC0)), aI g (A_2 0) 121 (fun _ => 0), aI g (A_2 1) 10 (fun _ => 5), aI g (A_2 2) 10 (fun _ => 0), aI g (A_2 3) 10 (fun _ => (-6)), aI g (A_2 4) 10 (fun j => nI j), aI g (A_2 5) 8 (fun _ => 0), aI g (A_2 6) 8 (fun _ => 0), (q_4, .inr (1, oC A_5 iC0)), aI g (A_5 0) 121 (fun _ => 0), aI g (A_5 1) 10 (fun _ => 5), aI g (A_5 2) 10 (fun _ => 0), aI g (A_5 3) 10 (fun _ => (-6)), aI g (A_5 4) 10 (fun j => nI j), aI g (A_5 5) 8 (fun _ => 0), aI g (A_5 6) 8 (fun _ => 0), aQ g q_7 2 (fun _ => none), (q_8, .inr (3, [.ref a_9, .int 0])), aI g a_9 60 (fun _ => 0)] H := hP
  have hD : va_D Z [(hζ, .inr (6, [.ref q_1, .ref q_4, .ref q_7, .ref q_8, .null, .null, .null, .null])), (q_1, .inr (1, oC A_2 iC0)), aI g (A_2 0) 121 (fun _ => 0), aI g (A_2 1) 10 (fun _ => 5), aI g (A_2 2) 10 (fun _ => 0), aI g (A_2 3) 10 (fun _ => (-6)), aI g (A_2 4) 10 (fun j => nI j), aI g (A_2 5) 8 (fun _ => 0), aI g (A_2 6) 8 (fun _ => 0), (q_4, .inr (1, oC A_5 iC0)), aI g (A_5 0) 121 (fun _ => 0), aI g (A_5 1) 10 (fun _ => 5), aI g (A_5 2) 10 (fun _ => 0), aI g (A_5 3) 10 (fun _ => (-6)), aI g (A_5 4) 10 (fun j => nI j), aI g (A_5 5) 8 (fun _ => 0), aI g (A_5 6) 8 (fun _ => 0), aQ g q_7 2 (fun _ => none), (q_8, .inr (3, [.ref a_9, .int 0])), aI g a_9 60 (fun _ => 0)] := hD
  refine lv_aload_n hx hb dX6_init_45 rfl (lv_at hl 0 rfl) ?_
  refine va_new (D := g.1) (ci := 2) (fs := [.int 0, .int 0, .int 0, .int 0, .int 0, .int 0]) (C := RX2) (T := TX2) (N := 6) hx hb hts hi2 tyX2 tyX2_ok hown (hts (.classLink RX6 30 RX2) (by decide +kernel)) (hts (.instantiable RX2 6) (by decide +kernel)) (hts (.initialized RX2) (by decide +kernel)) hK hP hD hS hA rfl (by decide +kernel) (Nat.le_of_ble_eq_true rfl) (Nat.le_of_ble_eq_true rfl) dX6_init_46 (fun q_11 H hP hD hS => ?_)
  have hP : va_P g.1 vwCl [(hζ, .inr (6, [.ref q_1, .ref q_4, .ref q_7, .ref q_8, .null, .null, .null, .null])), (q_1, .inr (1, oC A_2 iC0)), aI g (A_2 0) 121 (fun _ => 0), aI g (A_2 1) 10 (fun _ => 5), aI g (A_2 2) 10 (fun _ => 0), aI g (A_2 3) 10 (fun _ => (-6)), aI g (A_2 4) 10 (fun j => nI j), aI g (A_2 5) 8 (fun _ => 0), aI g (A_2 6) 8 (fun _ => 0), (q_4, .inr (1, oC A_5 iC0)), aI g (A_5 0) 121 (fun _ => 0), aI g (A_5 1) 10 (fun _ => 5), aI g (A_5 2) 10 (fun _ => 0), aI g (A_5 3) 10 (fun _ => (-6)), aI g (A_5 4) 10 (fun j => nI j), aI g (A_5 5) 8 (fun _ => 0), aI g (A_5 6) 8 (fun _ => 0), aQ g q_7 2 (fun _ => none), (q_8, .inr (3, [.ref a_9, .int 0])), aI g a_9 60 (fun _ => 0), (q_11, .inr (2, [.int 0, .int 0, .int 0, .int 0, .int 0, .int 0]))] H := hP
  have hD : va_D Z [(hζ, .inr (6, [.ref q_1, .ref q_4, .ref q_7, .ref q_8, .null, .null, .null, .null])), (q_1, .inr (1, oC A_2 iC0)), aI g (A_2 0) 121 (fun _ => 0), aI g (A_2 1) 10 (fun _ => 5), aI g (A_2 2) 10 (fun _ => 0), aI g (A_2 3) 10 (fun _ => (-6)), aI g (A_2 4) 10 (fun j => nI j), aI g (A_2 5) 8 (fun _ => 0), aI g (A_2 6) 8 (fun _ => 0), (q_4, .inr (1, oC A_5 iC0)), aI g (A_5 0) 121 (fun _ => 0), aI g (A_5 1) 10 (fun _ => 5), aI g (A_5 2) 10 (fun _ => 0), aI g (A_5 3) 10 (fun _ => (-6)), aI g (A_5 4) 10 (fun j => nI j), aI g (A_5 5) 8 (fun _ => 0), aI g (A_5 6) 8 (fun _ => 0), aQ g q_7 2 (fun _ => none), (q_8, .inr (3, [.ref a_9, .int 0])), aI g a_9 60 (fun _ => 0), (q_11, .inr (2, [.int 0, .int 0, .int 0, .int 0, .int 0, .int 0]))] := hD
  refine W.widen (k := 20) (n := 448) (by decide) (by decide) ?_
  refine lv_dup hx hb dX6_init_49 rfl ?_
  refine gcIN_v (As := []) (rest := [.ref q_11, .ref hζ]) F hK hN hP hD hS hA (c_X2_init l g H.size q_11) gX6_init_X2_init_n32 kX2_init rfl (hts (.initialized RX2) (by decide +kernel)) (hN.get 1 rfl) (hts (.instanceMethod yX2_init) (by decide +kernel)) rfl rfl rfl ⟨(Nat.le_of_ble_eq_true rfl), (Nat.le_of_ble_eq_true rfl)⟩ [20] [0, 1, 2, 3, 4, 5, 6, 7, 8, 9, 10, 11, 12, 13, 14, 15, 16, 17, 18, 19] rfl rfl rfl (by decide) rfl rfl rfl hl.1 (Nat.le_of_ble_eq_true rfl) dX6_init_50 ⟨(Nat.le_of_ble_eq_true rfl), (Nat.le_of_ble_eq_true rfl)⟩ (fun u_w H locs hw hP hD hS => ?_)
  have hP : va_P g.1 vwCl [(hζ, .inr (6, [.ref q_1, .ref q_4, .ref q_7, .ref q_8, .null, .null, .null, .null])), (q_1, .inr (1, oC A_2 iC0)), aI g (A_2 0) 121 (fun _ => 0), aI g (A_2 1) 10 (fun _ => 5), aI g (A_2 2) 10 (fun _ => 0), aI g (A_2 3) 10 (fun _ => (-6)), aI g (A_2 4) 10 (fun j => nI j), aI g (A_2 5) 8 (fun _ => 0), aI g (A_2 6) 8 (fun _ => 0), (q_4, .inr (1, oC A_5 iC0)), aI g (A_5 0) 121 (fun _ => 0), aI g (A_5 1) 10 (fun _ => 5), aI g (A_5 2) 10 (fun _ => 0), aI g (A_5 3) 10 (fun _ => (-6)), aI g (A_5 4) 10 (fun j => nI j), aI g (A_5 5) 8 (fun _ => 0), aI g (A_5 6) 8 (fun _ => 0), aQ g q_7 2 (fun _ => none), (q_8, .inr (3, [.ref a_9, .int 0])), aI g a_9 60 (fun _ => 0), (q_11, .inr (2, [.int 0, .int 0, .int 0, .int 0, .int 0, .int 0]))] H := hP
  have hD : va_D Z [(hζ, .inr (6, [.ref q_1, .ref q_4, .ref q_7, .ref q_8, .null, .null, .null, .null])), (q_1, .inr (1, oC A_2 iC0)), aI g (A_2 0) 121 (fun _ => 0), aI g (A_2 1) 10 (fun _ => 5), aI g (A_2 2) 10 (fun _ => 0), aI g (A_2 3) 10 (fun _ => (-6)), aI g (A_2 4) 10 (fun j => nI j), aI g (A_2 5) 8 (fun _ => 0), aI g (A_2 6) 8 (fun _ => 0), (q_4, .inr (1, oC A_5 iC0)), aI g (A_5 0) 121 (fun _ => 0), aI g (A_5 1) 10 (fun _ => 5), aI g (A_5 2) 10 (fun _ => 0), aI g (A_5 3) 10 (fun _ => (-6)), aI g (A_5 4) 10 (fun j => nI j), aI g (A_5 5) 8 (fun _ => 0), aI g (A_5 6) 8 (fun _ => 0), aQ g q_7 2 (fun _ => none), (q_8, .inr (3, [.ref a_9, .int 0])), aI g a_9 60 (fun _ => 0), (q_11, .inr (2, [.int 0, .int 0, .int 0, .int 0, .int 0, .int 0]))] := hD
  refine va_putF (D := g.1) (ci := 6) (v := .ref q_11) (ty := (.object "PanTales$Night")) (C := RX6) (T := TX6) (N := 8) hx hb hts hi6 tyX6 tyX6_ok nmX6 hown hK hP hD hS 0 rfl rfl 4 (by decide) (hts (.fieldLink RX6 33 "PanTales" "night" "LPanTales$Night;") (by decide +kernel)) (fun _ h9 => h9) rfl hnm rfl (by decide +kernel) rfl rfl (Nat.le_of_ble_eq_true rfl) dX6_init_53 (fun H locs hP hD hS => ?_)
  have hP : va_P g.1 vwCl [(hζ, .inr (6, [.ref q_1, .ref q_4, .ref q_7, .ref q_8, .ref q_11, .null, .null, .null])), (q_1, .inr (1, oC A_2 iC0)), aI g (A_2 0) 121 (fun _ => 0), aI g (A_2 1) 10 (fun _ => 5), aI g (A_2 2) 10 (fun _ => 0), aI g (A_2 3) 10 (fun _ => (-6)), aI g (A_2 4) 10 (fun j => nI j), aI g (A_2 5) 8 (fun _ => 0), aI g (A_2 6) 8 (fun _ => 0), (q_4, .inr (1, oC A_5 iC0)), aI g (A_5 0) 121 (fun _ => 0), aI g (A_5 1) 10 (fun _ => 5), aI g (A_5 2) 10 (fun _ => 0), aI g (A_5 3) 10 (fun _ => (-6)), aI g (A_5 4) 10 (fun j => nI j), aI g (A_5 5) 8 (fun _ => 0), aI g (A_5 6) 8 (fun _ => 0), aQ g q_7 2 (fun _ => none), (q_8, .inr (3, [.ref a_9, .int 0])), aI g a_9 60 (fun _ => 0), (q_11, .inr (2, [.int 0, .int 0, .int 0, .int 0, .int 0, .int 0]))] H := hP
  have hD : va_D Z [(hζ, .inr (6, [.ref q_1, .ref q_4, .ref q_7, .ref q_8, .ref q_11, .null, .null, .null])), (q_1, .inr (1, oC A_2 iC0)), aI g (A_2 0) 121 (fun _ => 0), aI g (A_2 1) 10 (fun _ => 5), aI g (A_2 2) 10 (fun _ => 0), aI g (A_2 3) 10 (fun _ => (-6)), aI g (A_2 4) 10 (fun j => nI j), aI g (A_2 5) 8 (fun _ => 0), aI g (A_2 6) 8 (fun _ => 0), (q_4, .inr (1, oC A_5 iC0)), aI g (A_5 0) 121 (fun _ => 0), aI g (A_5 1) 10 (fun _ => 5), aI g (A_5 2) 10 (fun _ => 0), aI g (A_5 3) 10 (fun _ => (-6)), aI g (A_5 4) 10 (fun j => nI j), aI g (A_5 5) 8 (fun _ => 0), aI g (A_5 6) 8 (fun _ => 0), aQ g q_7 2 (fun _ => none), (q_8, .inr (3, [.ref a_9, .int 0])), aI g a_9 60 (fun _ => 0), (q_11, .inr (2, [.int 0, .int 0, .int 0, .int 0, .int 0, .int 0]))] := hD
  refine lv_aload_n hx hb dX6_init_56 rfl (lv_at hl 0 rfl) ?_
  refine va_new (D := g.1) (ci := 5) (fs := [.null, .null, .null]) (C := RX5) (T := TX5) (N := 3) hx hb hts hi5 tyX5 tyX5_ok hown (hts (.classLink RX6 37 RX5) (by decide +kernel)) (hts (.instantiable RX5 3) (by decide +kernel)) (hts (.initialized RX5) (by decide +kernel)) hK hP hD hS hA rfl (by decide +kernel) (Nat.le_of_ble_eq_true rfl) (Nat.le_of_ble_eq_true rfl) dX6_init_57 (fun q_12 H hP hD hS => ?_)
  have hP : va_P g.1 vwCl [(hζ, .inr (6, [.ref q_1, .ref q_4, .ref q_7, .ref q_8, .ref q_11, .null, .null, .null])), (q_1, .inr (1, oC A_2 iC0)), aI g (A_2 0) 121 (fun _ => 0), aI g (A_2 1) 10 (fun _ => 5), aI g (A_2 2) 10 (fun _ => 0), aI g (A_2 3) 10 (fun _ => (-6)), aI g (A_2 4) 10 (fun j => nI j), aI g (A_2 5) 8 (fun _ => 0), aI g (A_2 6) 8 (fun _ => 0), (q_4, .inr (1, oC A_5 iC0)), aI g (A_5 0) 121 (fun _ => 0), aI g (A_5 1) 10 (fun _ => 5), aI g (A_5 2) 10 (fun _ => 0), aI g (A_5 3) 10 (fun _ => (-6)), aI g (A_5 4) 10 (fun j => nI j), aI g (A_5 5) 8 (fun _ => 0), aI g (A_5 6) 8 (fun _ => 0), aQ g q_7 2 (fun _ => none), (q_8, .inr (3, [.ref a_9, .int 0])), aI g a_9 60 (fun _ => 0), (q_11, .inr (2, [.int 0, .int 0, .int 0, .int 0, .int 0, .int 0])), (q_12, .inr (5, [.null, .null, .null]))] H := hP
  have hD : va_D Z [(hζ, .inr (6, [.ref q_1, .ref q_4, .ref q_7, .ref q_8, .ref q_11, .null, .null, .null])), (q_1, .inr (1, oC A_2 iC0)), aI g (A_2 0) 121 (fun _ => 0), aI g (A_2 1) 10 (fun _ => 5), aI g (A_2 2) 10 (fun _ => 0), aI g (A_2 3) 10 (fun _ => (-6)), aI g (A_2 4) 10 (fun j => nI j), aI g (A_2 5) 8 (fun _ => 0), aI g (A_2 6) 8 (fun _ => 0), (q_4, .inr (1, oC A_5 iC0)), aI g (A_5 0) 121 (fun _ => 0), aI g (A_5 1) 10 (fun _ => 5), aI g (A_5 2) 10 (fun _ => 0), aI g (A_5 3) 10 (fun _ => (-6)), aI g (A_5 4) 10 (fun j => nI j), aI g (A_5 5) 8 (fun _ => 0), aI g (A_5 6) 8 (fun _ => 0), aQ g q_7 2 (fun _ => none), (q_8, .inr (3, [.ref a_9, .int 0])), aI g a_9 60 (fun _ => 0), (q_11, .inr (2, [.int 0, .int 0, .int 0, .int 0, .int 0, .int 0])), (q_12, .inr (5, [.null, .null, .null]))] := hD
  refine W.widen (k := 21) (n := 451) (by decide) (by decide) ?_
  refine lv_dup hx hb dX6_init_60 rfl ?_
  refine gcIN_v (As := []) (rest := [.ref q_12, .ref hζ]) F hK hN hP hD hS hA (c_X5_init l g H.size q_12) gX6_init_X5_init_n39 kX5_init rfl (hts (.initialized RX5) (by decide +kernel)) (hN.get 2 rfl) (hts (.instanceMethod yX5_init) (by decide +kernel)) rfl rfl rfl ⟨(Nat.le_of_ble_eq_true rfl), (Nat.le_of_ble_eq_true rfl)⟩ [21] [0, 1, 2, 3, 4, 5, 6, 7, 8, 9, 10, 11, 12, 13, 14, 15, 16, 17, 18, 19, 20] rfl rfl rfl (by decide) rfl rfl rfl hl.1 (Nat.le_of_ble_eq_true rfl) dX6_init_61 ⟨(Nat.le_of_ble_eq_true rfl), (Nat.le_of_ble_eq_true rfl)⟩ (fun u_w H locs hw hP hD hS => ?_)
  refine W.widen (k := 23) (n := 583) (by decide) (by decide) ?_
  obtain ⟨G_13, rfl⟩ : ∃ z, z = u_w := ⟨_, rfl⟩
  have hw_14 := hw
  have hP : va_P g.1 vwCl [(hζ, .inr (6, [.ref q_1, .ref q_4, .ref q_7, .ref q_8, .ref q_11, .null, .null, .null])), (q_1, .inr (1, oC A_2 iC0)), aI g (A_2 0) 121 (fun _ => 0), aI g (A_2 1) 10 (fun _ => 5), aI g (A_2 2) 10 (fun _ => 0), aI g (A_2 3) 10 (fun _ => (-6)), aI g (A_2 4) 10 (fun j => nI j), aI g (A_2 5) 8 (fun _ => 0), aI g (A_2 6) 8 (fun _ => 0), (q_4, .inr (1, oC A_5 iC0)), aI g (A_5 0) 121 (fun _ => 0), aI g (A_5 1) 10 (fun _ => 5), aI g (A_5 2) 10 (fun _ => 0), aI g (A_5 3) 10 (fun _ => (-6)), aI g (A_5 4) 10 (fun j => nI j), aI g (A_5 5) 8 (fun _ => 0), aI g (A_5 6) 8 (fun _ => 0), aQ g q_7 2 (fun _ => none), (q_8, .inr (3, [.ref a_9, .int 0])), aI g a_9 60 (fun _ => 0), (q_11, .inr (2, [.int 0, .int 0, .int 0, .int 0, .int 0, .int 0])), (q_12, .inr (5, [.ref (G_13 0), .ref (G_13 1), .null])), aI g (G_13 0) 121 (fun _ => 0), aI g (G_13 1) 11 (fun _ => 0)] H := hP
  have hD : va_D Z [(hζ, .inr (6, [.ref q_1, .ref q_4, .ref q_7, .ref q_8, .ref q_11, .null, .null, .null])), (q_1, .inr (1, oC A_2 iC0)), aI g (A_2 0) 121 (fun _ => 0), aI g (A_2 1) 10 (fun _ => 5), aI g (A_2 2) 10 (fun _ => 0), aI g (A_2 3) 10 (fun _ => (-6)), aI g (A_2 4) 10 (fun j => nI j), aI g (A_2 5) 8 (fun _ => 0), aI g (A_2 6) 8 (fun _ => 0), (q_4, .inr (1, oC A_5 iC0)), aI g (A_5 0) 121 (fun _ => 0), aI g (A_5 1) 10 (fun _ => 5), aI g (A_5 2) 10 (fun _ => 0), aI g (A_5 3) 10 (fun _ => (-6)), aI g (A_5 4) 10 (fun j => nI j), aI g (A_5 5) 8 (fun _ => 0), aI g (A_5 6) 8 (fun _ => 0), aQ g q_7 2 (fun _ => none), (q_8, .inr (3, [.ref a_9, .int 0])), aI g a_9 60 (fun _ => 0), (q_11, .inr (2, [.int 0, .int 0, .int 0, .int 0, .int 0, .int 0])), (q_12, .inr (5, [.ref (G_13 0), .ref (G_13 1), .null])), aI g (G_13 0) 121 (fun _ => 0), aI g (G_13 1) 11 (fun _ => 0)] := hD
  refine va_putF (D := g.1) (ci := 6) (v := .ref q_12) (ty := (.object "PanTales$Ways")) (C := RX6) (T := TX6) (N := 8) hx hb hts hi6 tyX6 tyX6_ok nmX6 hown hK hP hD hS 0 rfl rfl 5 (by decide) (hts (.fieldLink RX6 40 "PanTales" "ways" "LPanTales$Ways;") (by decide +kernel)) (fun _ h9 => h9) rfl hnm rfl (by decide +kernel) rfl rfl (Nat.le_of_ble_eq_true rfl) dX6_init_64 (fun H locs hP hD hS => ?_)
  have hP : va_P g.1 vwCl [(hζ, .inr (6, [.ref q_1, .ref q_4, .ref q_7, .ref q_8, .ref q_11, .ref q_12, .null, .null])), (q_1, .inr (1, oC A_2 iC0)), aI g (A_2 0) 121 (fun _ => 0), aI g (A_2 1) 10 (fun _ => 5), aI g (A_2 2) 10 (fun _ => 0), aI g (A_2 3) 10 (fun _ => (-6)), aI g (A_2 4) 10 (fun j => nI j), aI g (A_2 5) 8 (fun _ => 0), aI g (A_2 6) 8 (fun _ => 0), (q_4, .inr (1, oC A_5 iC0)), aI g (A_5 0) 121 (fun _ => 0), aI g (A_5 1) 10 (fun _ => 5), aI g (A_5 2) 10 (fun _ => 0), aI g (A_5 3) 10 (fun _ => (-6)), aI g (A_5 4) 10 (fun j => nI j), aI g (A_5 5) 8 (fun _ => 0), aI g (A_5 6) 8 (fun _ => 0), aQ g q_7 2 (fun _ => none), (q_8, .inr (3, [.ref a_9, .int 0])), aI g a_9 60 (fun _ => 0), (q_11, .inr (2, [.int 0, .int 0, .int 0, .int 0, .int 0, .int 0])), (q_12, .inr (5, [.ref (G_13 0), .ref (G_13 1), .null])), aI g (G_13 0) 121 (fun _ => 0), aI g (G_13 1) 11 (fun _ => 0)] H := hP
  have hD : va_D Z [(hζ, .inr (6, [.ref q_1, .ref q_4, .ref q_7, .ref q_8, .ref q_11, .ref q_12, .null, .null])), (q_1, .inr (1, oC A_2 iC0)), aI g (A_2 0) 121 (fun _ => 0), aI g (A_2 1) 10 (fun _ => 5), aI g (A_2 2) 10 (fun _ => 0), aI g (A_2 3) 10 (fun _ => (-6)), aI g (A_2 4) 10 (fun j => nI j), aI g (A_2 5) 8 (fun _ => 0), aI g (A_2 6) 8 (fun _ => 0), (q_4, .inr (1, oC A_5 iC0)), aI g (A_5 0) 121 (fun _ => 0), aI g (A_5 1) 10 (fun _ => 5), aI g (A_5 2) 10 (fun _ => 0), aI g (A_5 3) 10 (fun _ => (-6)), aI g (A_5 4) 10 (fun j => nI j), aI g (A_5 5) 8 (fun _ => 0), aI g (A_5 6) 8 (fun _ => 0), aQ g q_7 2 (fun _ => none), (q_8, .inr (3, [.ref a_9, .int 0])), aI g a_9 60 (fun _ => 0), (q_11, .inr (2, [.int 0, .int 0, .int 0, .int 0, .int 0, .int 0])), (q_12, .inr (5, [.ref (G_13 0), .ref (G_13 1), .null])), aI g (G_13 0) 121 (fun _ => 0), aI g (G_13 1) 11 (fun _ => 0)] := hD
  refine lv_aload_n hx hb dX6_init_67 rfl (lv_at hl 0 rfl) ?_
  refine va_new (D := g.1) (ci := 4) (fs := [.null, .null, .null, .int 0]) (C := RX4) (T := TX4) (N := 4) hx hb hts hi4 tyX4 tyX4_ok hown (hts (.classLink RX6 44 RX4) (by decide +kernel)) (hts (.instantiable RX4 4) (by decide +kernel)) (hts (.initialized RX4) (by decide +kernel)) hK hP hD hS hA rfl (by decide +kernel) (Nat.le_of_ble_eq_true rfl) (Nat.le_of_ble_eq_true rfl) dX6_init_68 (fun q_15 H hP hD hS => ?_)
  have hP : va_P g.1 vwCl [(hζ, .inr (6, [.ref q_1, .ref q_4, .ref q_7, .ref q_8, .ref q_11, .ref q_12, .null, .null])), (q_1, .inr (1, oC A_2 iC0)), aI g (A_2 0) 121 (fun _ => 0), aI g (A_2 1) 10 (fun _ => 5), aI g (A_2 2) 10 (fun _ => 0), aI g (A_2 3) 10 (fun _ => (-6)), aI g (A_2 4) 10 (fun j => nI j), aI g (A_2 5) 8 (fun _ => 0), aI g (A_2 6) 8 (fun _ => 0), (q_4, .inr (1, oC A_5 iC0)), aI g (A_5 0) 121 (fun _ => 0), aI g (A_5 1) 10 (fun _ => 5), aI g (A_5 2) 10 (fun _ => 0), aI g (A_5 3) 10 (fun _ => (-6)), aI g (A_5 4) 10 (fun j => nI j), aI g (A_5 5) 8 (fun _ => 0), aI g (A_5 6) 8 (fun _ => 0), aQ g q_7 2 (fun _ => none), (q_8, .inr (3, [.ref a_9, .int 0])), aI g a_9 60 (fun _ => 0), (q_11, .inr (2, [.int 0, .int 0, .int 0, .int 0, .int 0, .int 0])), (q_12, .inr (5, [.ref (G_13 0), .ref (G_13 1), .null])), aI g (G_13 0) 121 (fun _ => 0), aI g (G_13 1) 11 (fun _ => 0), (q_15, .inr (4, [.null, .null, .null, .int 0]))] H := hP
  have hD : va_D Z [(hζ, .inr (6, [.ref q_1, .ref q_4, .ref q_7, .ref q_8, .ref q_11, .ref q_12, .null, .null])), (q_1, .inr (1, oC A_2 iC0)), aI g (A_2 0) 121 (fun _ => 0), aI g (A_2 1) 10 (fun _ => 5), aI g (A_2 2) 10 (fun _ => 0), aI g (A_2 3) 10 (fun _ => (-6)), aI g (A_2 4) 10 (fun j => nI j), aI g (A_2 5) 8 (fun _ => 0), aI g (A_2 6) 8 (fun _ => 0), (q_4, .inr (1, oC A_5 iC0)), aI g (A_5 0) 121 (fun _ => 0), aI g (A_5 1) 10 (fun _ => 5), aI g (A_5 2) 10 (fun _ => 0), aI g (A_5 3) 10 (fun _ => (-6)), aI g (A_5 4) 10 (fun j => nI j), aI g (A_5 5) 8 (fun _ => 0), aI g (A_5 6) 8 (fun _ => 0), aQ g q_7 2 (fun _ => none), (q_8, .inr (3, [.ref a_9, .int 0])), aI g a_9 60 (fun _ => 0), (q_11, .inr (2, [.int 0, .int 0, .int 0, .int 0, .int 0, .int 0])), (q_12, .inr (5, [.ref (G_13 0), .ref (G_13 1), .null])), aI g (G_13 0) 121 (fun _ => 0), aI g (G_13 1) 11 (fun _ => 0), (q_15, .inr (4, [.null, .null, .null, .int 0]))] := hD
  refine W.widen (k := 24) (n := 587) (by decide) (by decide) ?_
  refine lv_dup hx hb dX6_init_71 rfl ?_
  refine gcIN_v (As := []) (rest := [.ref q_15, .ref hζ]) F hK hN hP hD hS hA (c_X4_init l g H.size q_15) gX6_init_X4_init_n46 kX4_init rfl (hts (.initialized RX4) (by decide +kernel)) (hN.get 3 rfl) (hts (.instanceMethod yX4_init) (by decide +kernel)) rfl rfl rfl ⟨(Nat.le_of_ble_eq_true rfl), (Nat.le_of_ble_eq_true rfl)⟩ [24] [0, 1, 2, 3, 4, 5, 6, 7, 8, 9, 10, 11, 12, 13, 14, 15, 16, 17, 18, 19, 20, 21, 22, 23] rfl rfl rfl (by decide) rfl rfl rfl hl.1 (Nat.le_of_ble_eq_true rfl) dX6_init_72 ⟨(Nat.le_of_ble_eq_true rfl), (Nat.le_of_ble_eq_true rfl)⟩ (fun u_w H locs hw hP hD hS => ?_)
  refine W.widen (k := 27) (n := 1057) (by decide) (by decide) ?_
  obtain ⟨G_16, rfl⟩ : ∃ z, z = u_w := ⟨_, rfl⟩
  have hw_17 := hw
  have hP : va_P g.1 vwCl [(hζ, .inr (6, [.ref q_1, .ref q_4, .ref q_7, .ref q_8, .ref q_11, .ref q_12, .null, .null])), (q_1, .inr (1, oC A_2 iC0)), aI g (A_2 0) 121 (fun _ => 0), aI g (A_2 1) 10 (fun _ => 5), aI g (A_2 2) 10 (fun _ => 0), aI g (A_2 3) 10 (fun _ => (-6)), aI g (A_2 4) 10 (fun j => nI j), aI g (A_2 5) 8 (fun _ => 0), aI g (A_2 6) 8 (fun _ => 0), (q_4, .inr (1, oC A_5 iC0)), aI g (A_5 0) 121 (fun _ => 0), aI g (A_5 1) 10 (fun _ => 5), aI g (A_5 2) 10 (fun _ => 0), aI g (A_5 3) 10 (fun _ => (-6)), aI g (A_5 4) 10 (fun j => nI j), aI g (A_5 5) 8 (fun _ => 0), aI g (A_5 6) 8 (fun _ => 0), aQ g q_7 2 (fun _ => none), (q_8, .inr (3, [.ref a_9, .int 0])), aI g a_9 60 (fun _ => 0), (q_11, .inr (2, [.int 0, .int 0, .int 0, .int 0, .int 0, .int 0])), (q_12, .inr (5, [.ref (G_13 0), .ref (G_13 1), .null])), aI g (G_13 0) 121 (fun _ => 0), aI g (G_13 1) 11 (fun _ => 0), (q_15, .inr (4, [.ref (G_16 0), .ref (G_16 1), .ref (G_16 2), .int 0])), aI g (G_16 0) 410 (fun _ => 0), aI g (G_16 1) 50 (fun _ => 0), aI g (G_16 2) 10 (fun _ => 0)] H := hP
  have hD : va_D Z [(hζ, .inr (6, [.ref q_1, .ref q_4, .ref q_7, .ref q_8, .ref q_11, .ref q_12, .null, .null])), (q_1, .inr (1, oC A_2 iC0)), aI g (A_2 0) 121 (fun _ => 0), aI g (A_2 1) 10 (fun _ => 5), aI g (A_2 2) 10 (fun _ => 0), aI g (A_2 3) 10 (fun _ => (-6)), aI g (A_2 4) 10 (fun j => nI j), aI g (A_2 5) 8 (fun _ => 0), aI g (A_2 6) 8 (fun _ => 0), (q_4, .inr (1, oC A_5 iC0)), aI g (A_5 0) 121 (fun _ => 0), aI g (A_5 1) 10 (fun _ => 5), aI g (A_5 2) 10 (fun _ => 0), aI g (A_5 3) 10 (fun _ => (-6)), aI g (A_5 4) 10 (fun j => nI j), aI g (A_5 5) 8 (fun _ => 0), aI g (A_5 6) 8 (fun _ => 0), aQ g q_7 2 (fun _ => none), (q_8, .inr (3, [.ref a_9, .int 0])), aI g a_9 60 (fun _ => 0), (q_11, .inr (2, [.int 0, .int 0, .int 0, .int 0, .int 0, .int 0])), (q_12, .inr (5, [.ref (G_13 0), .ref (G_13 1), .null])), aI g (G_13 0) 121 (fun _ => 0), aI g (G_13 1) 11 (fun _ => 0), (q_15, .inr (4, [.ref (G_16 0), .ref (G_16 1), .ref (G_16 2), .int 0])), aI g (G_16 0) 410 (fun _ => 0), aI g (G_16 1) 50 (fun _ => 0), aI g (G_16 2) 10 (fun _ => 0)] := hD
  refine va_putF (D := g.1) (ci := 6) (v := .ref q_15) (ty := (.object "PanTales$Sayings")) (C := RX6) (T := TX6) (N := 8) hx hb hts hi6 tyX6 tyX6_ok nmX6 hown hK hP hD hS 0 rfl rfl 6 (by decide) (hts (.fieldLink RX6 47 "PanTales" "sayings" "LPanTales$Sayings;") (by decide +kernel)) (fun _ h9 => h9) rfl hnm rfl (by decide +kernel) rfl rfl (Nat.le_of_ble_eq_true rfl) dX6_init_75 (fun H locs hP hD hS => ?_)
  have hP : va_P g.1 vwCl [(hζ, .inr (6, [.ref q_1, .ref q_4, .ref q_7, .ref q_8, .ref q_11, .ref q_12, .ref q_15, .null])), (q_1, .inr (1, oC A_2 iC0)), aI g (A_2 0) 121 (fun _ => 0), aI g (A_2 1) 10 (fun _ => 5), aI g (A_2 2) 10 (fun _ => 0), aI g (A_2 3) 10 (fun _ => (-6)), aI g (A_2 4) 10 (fun j => nI j), aI g (A_2 5) 8 (fun _ => 0), aI g (A_2 6) 8 (fun _ => 0), (q_4, .inr (1, oC A_5 iC0)), aI g (A_5 0) 121 (fun _ => 0), aI g (A_5 1) 10 (fun _ => 5), aI g (A_5 2) 10 (fun _ => 0), aI g (A_5 3) 10 (fun _ => (-6)), aI g (A_5 4) 10 (fun j => nI j), aI g (A_5 5) 8 (fun _ => 0), aI g (A_5 6) 8 (fun _ => 0), aQ g q_7 2 (fun _ => none), (q_8, .inr (3, [.ref a_9, .int 0])), aI g a_9 60 (fun _ => 0), (q_11, .inr (2, [.int 0, .int 0, .int 0, .int 0, .int 0, .int 0])), (q_12, .inr (5, [.ref (G_13 0), .ref (G_13 1), .null])), aI g (G_13 0) 121 (fun _ => 0), aI g (G_13 1) 11 (fun _ => 0), (q_15, .inr (4, [.ref (G_16 0), .ref (G_16 1), .ref (G_16 2), .int 0])), aI g (G_16 0) 410 (fun _ => 0), aI g (G_16 1) 50 (fun _ => 0), aI g (G_16 2) 10 (fun _ => 0)] H := hP
  have hD : va_D Z [(hζ, .inr (6, [.ref q_1, .ref q_4, .ref q_7, .ref q_8, .ref q_11, .ref q_12, .ref q_15, .null])), (q_1, .inr (1, oC A_2 iC0)), aI g (A_2 0) 121 (fun _ => 0), aI g (A_2 1) 10 (fun _ => 5), aI g (A_2 2) 10 (fun _ => 0), aI g (A_2 3) 10 (fun _ => (-6)), aI g (A_2 4) 10 (fun j => nI j), aI g (A_2 5) 8 (fun _ => 0), aI g (A_2 6) 8 (fun _ => 0), (q_4, .inr (1, oC A_5 iC0)), aI g (A_5 0) 121 (fun _ => 0), aI g (A_5 1) 10 (fun _ => 5), aI g (A_5 2) 10 (fun _ => 0), aI g (A_5 3) 10 (fun _ => (-6)), aI g (A_5 4) 10 (fun j => nI j), aI g (A_5 5) 8 (fun _ => 0), aI g (A_5 6) 8 (fun _ => 0), aQ g q_7 2 (fun _ => none), (q_8, .inr (3, [.ref a_9, .int 0])), aI g a_9 60 (fun _ => 0), (q_11, .inr (2, [.int 0, .int 0, .int 0, .int 0, .int 0, .int 0])), (q_12, .inr (5, [.ref (G_13 0), .ref (G_13 1), .null])), aI g (G_13 0) 121 (fun _ => 0), aI g (G_13 1) 11 (fun _ => 0), (q_15, .inr (4, [.ref (G_16 0), .ref (G_16 1), .ref (G_16 2), .int 0])), aI g (G_16 0) 410 (fun _ => 0), aI g (G_16 1) 50 (fun _ => 0), aI g (G_16 2) 10 (fun _ => 0)] := hD
  refine lv_aload_n hx hb dX6_init_78 rfl (lv_at hl 0 rfl) ?_
  refine va_new (D := g.1) (ci := 0) (fs := [.null, .null, .null]) (C := RX0) (T := TX0) (N := 3) hx hb hts hi0 tyX0 tyX0_ok hown (hts (.classLink RX6 51 RX0) (by decide +kernel)) (hts (.instantiable RX0 3) (by decide +kernel)) (hts (.initialized RX0) (by decide +kernel)) hK hP hD hS hA rfl (by decide +kernel) (Nat.le_of_ble_eq_true rfl) (Nat.le_of_ble_eq_true rfl) dX6_init_79 (fun q_18 H hP hD hS => ?_)
  have hP : va_P g.1 vwCl [(hζ, .inr (6, [.ref q_1, .ref q_4, .ref q_7, .ref q_8, .ref q_11, .ref q_12, .ref q_15, .null])), (q_1, .inr (1, oC A_2 iC0)), aI g (A_2 0) 121 (fun _ => 0), aI g (A_2 1) 10 (fun _ => 5), aI g (A_2 2) 10 (fun _ => 0), aI g (A_2 3) 10 (fun _ => (-6)), aI g (A_2 4) 10 (fun j => nI j), aI g (A_2 5) 8 (fun _ => 0), aI g (A_2 6) 8 (fun _ => 0), (q_4, .inr (1, oC A_5 iC0)), aI g (A_5 0) 121 (fun _ => 0), aI g (A_5 1) 10 (fun _ => 5), aI g (A_5 2) 10 (fun _ => 0), aI g (A_5 3) 10 (fun _ => (-6)), aI g (A_5 4) 10 (fun j => nI j), aI g (A_5 5) 8 (fun _ => 0), aI g (A_5 6) 8 (fun _ => 0), aQ g q_7 2 (fun _ => none), (q_8, .inr (3, [.ref a_9, .int 0])), aI g a_9 60 (fun _ => 0), (q_11, .inr (2, [.int 0, .int 0, .int 0, .int 0, .int 0, .int 0])), (q_12, .inr (5, [.ref (G_13 0), .ref (G_13 1), .null])), aI g (G_13 0) 121 (fun _ => 0), aI g (G_13 1) 11 (fun _ => 0), (q_15, .inr (4, [.ref (G_16 0), .ref (G_16 1), .ref (G_16 2), .int 0])), aI g (G_16 0) 410 (fun _ => 0), aI g (G_16 1) 50 (fun _ => 0), aI g (G_16 2) 10 (fun _ => 0), (q_18, .inr (0, [.null, .null, .null]))] H := hP
  have hD : va_D Z [(hζ, .inr (6, [.ref q_1, .ref q_4, .ref q_7, .ref q_8, .ref q_11, .ref q_12, .ref q_15, .null])), (q_1, .inr (1, oC A_2 iC0)), aI g (A_2 0) 121 (fun _ => 0), aI g (A_2 1) 10 (fun _ => 5), aI g (A_2 2) 10 (fun _ => 0), aI g (A_2 3) 10 (fun _ => (-6)), aI g (A_2 4) 10 (fun j => nI j), aI g (A_2 5) 8 (fun _ => 0), aI g (A_2 6) 8 (fun _ => 0), (q_4, .inr (1, oC A_5 iC0)), aI g (A_5 0) 121 (fun _ => 0), aI g (A_5 1) 10 (fun _ => 5), aI g (A_5 2) 10 (fun _ => 0), aI g (A_5 3) 10 (fun _ => (-6)), aI g (A_5 4) 10 (fun j => nI j), aI g (A_5 5) 8 (fun _ => 0), aI g (A_5 6) 8 (fun _ => 0), aQ g q_7 2 (fun _ => none), (q_8, .inr (3, [.ref a_9, .int 0])), aI g a_9 60 (fun _ => 0), (q_11, .inr (2, [.int 0, .int 0, .int 0, .int 0, .int 0, .int 0])), (q_12, .inr (5, [.ref (G_13 0), .ref (G_13 1), .null])), aI g (G_13 0) 121 (fun _ => 0), aI g (G_13 1) 11 (fun _ => 0), (q_15, .inr (4, [.ref (G_16 0), .ref (G_16 1), .ref (G_16 2), .int 0])), aI g (G_16 0) 410 (fun _ => 0), aI g (G_16 1) 50 (fun _ => 0), aI g (G_16 2) 10 (fun _ => 0), (q_18, .inr (0, [.null, .null, .null]))] := hD
  refine W.widen (k := 28) (n := 1060) (by decide) (by decide) ?_
  refine lv_dup hx hb dX6_init_82 rfl ?_
  refine gcIN_v (As := []) (rest := [.ref q_18, .ref hζ]) F hK hN hP hD hS hA (c_X0_init l g H.size q_18) gX6_init_X0_init_n53 kX0_init rfl (hts (.initialized RX0) (by decide +kernel)) (hN.get 4 rfl) (hts (.instanceMethod yX0_init) (by decide +kernel)) rfl rfl rfl ⟨(Nat.le_of_ble_eq_true rfl), (Nat.le_of_ble_eq_true rfl)⟩ [28] [0, 1, 2, 3, 4, 5, 6, 7, 8, 9, 10, 11, 12, 13, 14, 15, 16, 17, 18, 19, 20, 21, 22, 23, 24, 25, 26, 27] rfl rfl rfl (by decide) rfl rfl rfl hl.1 (Nat.le_of_ble_eq_true rfl) dX6_init_83 ⟨(Nat.le_of_ble_eq_true rfl), (Nat.le_of_ble_eq_true rfl)⟩ (fun u_w H locs hw hP hD hS => ?_)
  refine W.widen (k := 31) (n := 1143) (by decide) (by decide) ?_
  obtain ⟨G_19, rfl⟩ : ∃ z, z = u_w := ⟨_, rfl⟩
  have hw_20 := hw
  have hP : va_P g.1 vwCl [(hζ, .inr (6, [.ref q_1, .ref q_4, .ref q_7, .ref q_8, .ref q_11, .ref q_12, .ref q_15, .null])), (q_1, .inr (1, oC A_2 iC0)), aI g (A_2 0) 121 (fun _ => 0), aI g (A_2 1) 10 (fun _ => 5), aI g (A_2 2) 10 (fun _ => 0), aI g (A_2 3) 10 (fun _ => (-6)), aI g (A_2 4) 10 (fun j => nI j), aI g (A_2 5) 8 (fun _ => 0), aI g (A_2 6) 8 (fun _ => 0), (q_4, .inr (1, oC A_5 iC0)), aI g (A_5 0) 121 (fun _ => 0), aI g (A_5 1) 10 (fun _ => 5), aI g (A_5 2) 10 (fun _ => 0), aI g (A_5 3) 10 (fun _ => (-6)), aI g (A_5 4) 10 (fun j => nI j), aI g (A_5 5) 8 (fun _ => 0), aI g (A_5 6) 8 (fun _ => 0), aQ g q_7 2 (fun _ => none), (q_8, .inr (3, [.ref a_9, .int 0])), aI g a_9 60 (fun _ => 0), (q_11, .inr (2, [.int 0, .int 0, .int 0, .int 0, .int 0, .int 0])), (q_12, .inr (5, [.ref (G_13 0), .ref (G_13 1), .null])), aI g (G_13 0) 121 (fun _ => 0), aI g (G_13 1) 11 (fun _ => 0), (q_15, .inr (4, [.ref (G_16 0), .ref (G_16 1), .ref (G_16 2), .int 0])), aI g (G_16 0) 410 (fun _ => 0), aI g (G_16 1) 50 (fun _ => 0), aI g (G_16 2) 10 (fun _ => 0), (q_18, .inr (0, [.ref (G_19 0), .ref (G_19 1), .ref (G_19 2)])), aJ g (G_19 0) 11 (fun _ => 0), aJ g (G_19 1) 11 (fun _ => 0), aI g (G_19 2) 61 (fun _ => 0)] H := hP
  have hD : va_D Z [(hζ, .inr (6, [.ref q_1, .ref q_4, .ref q_7, .ref q_8, .ref q_11, .ref q_12, .ref q_15, .null])), (q_1, .inr (1, oC A_2 iC0)), aI g (A_2 0) 121 (fun _ => 0), aI g (A_2 1) 10 (fun _ => 5), aI g (A_2 2) 10 (fun _ => 0), aI g (A_2 3) 10 (fun _ => (-6)), aI g (A_2 4) 10 (fun j => nI j), aI g (A_2 5) 8 (fun _ => 0), aI g (A_2 6) 8 (fun _ => 0), (q_4, .inr (1, oC A_5 iC0)), aI g (A_5 0) 121 (fun _ => 0), aI g (A_5 1) 10 (fun _ => 5), aI g (A_5 2) 10 (fun _ => 0), aI g (A_5 3) 10 (fun _ => (-6)), aI g (A_5 4) 10 (fun j => nI j), aI g (A_5 5) 8 (fun _ => 0), aI g (A_5 6) 8 (fun _ => 0), aQ g q_7 2 (fun _ => none), (q_8, .inr (3, [.ref a_9, .int 0])), aI g a_9 60 (fun _ => 0), (q_11, .inr (2, [.int 0, .int 0, .int 0, .int 0, .int 0, .int 0])), (q_12, .inr (5, [.ref (G_13 0), .ref (G_13 1), .null])), aI g (G_13 0) 121 (fun _ => 0), aI g (G_13 1) 11 (fun _ => 0), (q_15, .inr (4, [.ref (G_16 0), .ref (G_16 1), .ref (G_16 2), .int 0])), aI g (G_16 0) 410 (fun _ => 0), aI g (G_16 1) 50 (fun _ => 0), aI g (G_16 2) 10 (fun _ => 0), (q_18, .inr (0, [.ref (G_19 0), .ref (G_19 1), .ref (G_19 2)])), aJ g (G_19 0) 11 (fun _ => 0), aJ g (G_19 1) 11 (fun _ => 0), aI g (G_19 2) 61 (fun _ => 0)] := hD
  refine va_putF (D := g.1) (ci := 6) (v := .ref q_18) (ty := (.object "PanTales$Chances")) (C := RX6) (T := TX6) (N := 8) hx hb hts hi6 tyX6 tyX6_ok nmX6 hown hK hP hD hS 0 rfl rfl 7 (by decide) (hts (.fieldLink RX6 54 "PanTales" "chances" "LPanTales$Chances;") (by decide +kernel)) (fun _ h9 => h9) rfl hnm rfl (by decide +kernel) rfl rfl (Nat.le_of_ble_eq_true rfl) dX6_init_86 (fun H locs hP hD hS => ?_)
  have hP : va_P g.1 vwCl [(hζ, .inr (6, [.ref q_1, .ref q_4, .ref q_7, .ref q_8, .ref q_11, .ref q_12, .ref q_15, .ref q_18])), (q_1, .inr (1, oC A_2 iC0)), aI g (A_2 0) 121 (fun _ => 0), aI g (A_2 1) 10 (fun _ => 5), aI g (A_2 2) 10 (fun _ => 0), aI g (A_2 3) 10 (fun _ => (-6)), aI g (A_2 4) 10 (fun j => nI j), aI g (A_2 5) 8 (fun _ => 0), aI g (A_2 6) 8 (fun _ => 0), (q_4, .inr (1, oC A_5 iC0)), aI g (A_5 0) 121 (fun _ => 0), aI g (A_5 1) 10 (fun _ => 5), aI g (A_5 2) 10 (fun _ => 0), aI g (A_5 3) 10 (fun _ => (-6)), aI g (A_5 4) 10 (fun j => nI j), aI g (A_5 5) 8 (fun _ => 0), aI g (A_5 6) 8 (fun _ => 0), aQ g q_7 2 (fun _ => none), (q_8, .inr (3, [.ref a_9, .int 0])), aI g a_9 60 (fun _ => 0), (q_11, .inr (2, [.int 0, .int 0, .int 0, .int 0, .int 0, .int 0])), (q_12, .inr (5, [.ref (G_13 0), .ref (G_13 1), .null])), aI g (G_13 0) 121 (fun _ => 0), aI g (G_13 1) 11 (fun _ => 0), (q_15, .inr (4, [.ref (G_16 0), .ref (G_16 1), .ref (G_16 2), .int 0])), aI g (G_16 0) 410 (fun _ => 0), aI g (G_16 1) 50 (fun _ => 0), aI g (G_16 2) 10 (fun _ => 0), (q_18, .inr (0, [.ref (G_19 0), .ref (G_19 1), .ref (G_19 2)])), aJ g (G_19 0) 11 (fun _ => 0), aJ g (G_19 1) 11 (fun _ => 0), aI g (G_19 2) 61 (fun _ => 0)] H := hP
  have hD : va_D Z [(hζ, .inr (6, [.ref q_1, .ref q_4, .ref q_7, .ref q_8, .ref q_11, .ref q_12, .ref q_15, .ref q_18])), (q_1, .inr (1, oC A_2 iC0)), aI g (A_2 0) 121 (fun _ => 0), aI g (A_2 1) 10 (fun _ => 5), aI g (A_2 2) 10 (fun _ => 0), aI g (A_2 3) 10 (fun _ => (-6)), aI g (A_2 4) 10 (fun j => nI j), aI g (A_2 5) 8 (fun _ => 0), aI g (A_2 6) 8 (fun _ => 0), (q_4, .inr (1, oC A_5 iC0)), aI g (A_5 0) 121 (fun _ => 0), aI g (A_5 1) 10 (fun _ => 5), aI g (A_5 2) 10 (fun _ => 0), aI g (A_5 3) 10 (fun _ => (-6)), aI g (A_5 4) 10 (fun j => nI j), aI g (A_5 5) 8 (fun _ => 0), aI g (A_5 6) 8 (fun _ => 0), aQ g q_7 2 (fun _ => none), (q_8, .inr (3, [.ref a_9, .int 0])), aI g a_9 60 (fun _ => 0), (q_11, .inr (2, [.int 0, .int 0, .int 0, .int 0, .int 0, .int 0])), (q_12, .inr (5, [.ref (G_13 0), .ref (G_13 1), .null])), aI g (G_13 0) 121 (fun _ => 0), aI g (G_13 1) 11 (fun _ => 0), (q_15, .inr (4, [.ref (G_16 0), .ref (G_16 1), .ref (G_16 2), .int 0])), aI g (G_16 0) 410 (fun _ => 0), aI g (G_16 1) 50 (fun _ => 0), aI g (G_16 2) 10 (fun _ => 0), (q_18, .inr (0, [.ref (G_19 0), .ref (G_19 1), .ref (G_19 2)])), aJ g (G_19 0) 11 (fun _ => 0), aJ g (G_19 1) 11 (fun _ => 0), aI g (G_19 2) 61 (fun _ => 0)] := hD
  exact r_vret hx hb hr hlk hS (mkE [[q_1, q_4, q_7, q_8, q_11, q_12, q_15, q_18], [A_2 0, A_2 1, A_2 2, A_2 3, A_2 4, A_2 5, A_2 6], [A_5 0, A_5 1, A_5 2, A_5 3, A_5 4, A_5 5, A_5 6], [a_9], [], [G_13 0, G_13 1], [G_16 0, G_16 1, G_16 2], [G_19 0, G_19 1, G_19 2]]) trivial (hP.sub [0, 1, 2, 3, 4, 5, 6, 7, 8, 9, 10, 11, 12, 13, 14, 15, 16, 17, 18, 19, 20, 21, 22, 23, 24, 25, 26, 27, 28, 29, 30, 31] rfl) (hD.sub [0, 1, 2, 3, 4, 5, 6, 7, 8, 9, 10, 11, 12, 13, 14, 15, 16, 17, 18, 19, 20, 21, 22, 23, 24, 25, 26, 27, 28, 29, 30, 31] (by decide) rfl) dX6_init_89
end
section
/-! pure functions that bytecode is lifted to: none where an index, a divisor, a boolean is out of its range, or the fuel is out -/
abbrev qS : Type := Nat → Nat → Int32
abbrev qL : Type := Nat → Nat → Int64
def q_up (σ : qS) (k : Nat) (f : Nat → Int32) : qS := fun j => bif Nat.beq j k then f else σ j
def q_upL (σ : qL) (k : Nat) (f : Nat → Int64) : qL := fun j => bif Nat.beq j k then f else σ j
abbrev q_pt (σ : qS) (k : Nat) (x : Int32) : qS := q_up σ 99 (upd (σ 99) k x)
def q_bd {α β : Type} (x : α) (k : α → Option β) : Option β := k x
def q_cl {α β : Type} (x : Option α) (k : α → Option β) : Option β := match x with
  | some a => k a
  | none => none
def q_chk {β : Type} (b : Bool) (x : Option β) : Option β := bif b then x else none
def q_inb (i : Int32) (n : Nat) : Bool := decide (¬ (i < 0 ∨ n ≤ i.toNatClampNeg))
def q_rd {β : Type} (σ : qS) (k n : Nat) (i : Int32) (K : Int32 → Option β) : Option β := q_chk (q_inb i n) (K (σ k i.toNatClampNeg))
def q_rdL {β : Type} (σ : qL) (k n : Nat) (i : Int32) (K : Int64 → Option β) : Option β := q_chk (q_inb i n) (K (σ k i.toNatClampNeg))
def q_wr {β : Type} (σ : qS) (k n : Nat) (i x : Int32) (K : qS → Option β) : Option β := q_chk (q_inb i n) (K (q_up σ k (upd (σ k) i.toNatClampNeg x)))
def q_wrZ {β : Type} (σ : qS) (k n : Nat) (i x : Int32) (K : qS → Option β) : Option β := q_chk (q_inb i n) (K (q_up σ k (upd (σ k) i.toNatClampNeg (vp_nar .boolean x))))
def q_wrL {β : Type} (σ : qL) (k n : Nat) (i : Int32) (x : Int64) (K : qL → Option β) : Option β := q_chk (q_inb i n) (K (q_upL σ k (vp_updL (σ k) i.toNatClampNeg x)))
def q_nz {β : Type} (y : Int32) (x : Option β) : Option β := if y = 0 then none else x
def q_nzL {β : Type} (y : Int64) (x : Option β) : Option β := if y = 0 then none else x
def q_isB (v : Int32) : Bool := v == 0 || v == 1
def q_lp {σ R : Type} (body : (σ → Option R) → (σ → Option R) → σ → Option R) (k : σ → Option R) : Nat → σ → Option R
  | 0, _ => none
  | n + 1, s => body k (q_lp body k n) s
section QB
variable {α β : Type} {r : β}
theorem q_bd_s {x : α} {k : α → Option β} (h : q_bd x k = some r) : ∃ v, x = v ∧ k v = some r := ⟨x, rfl, h⟩
theorem q_cl_s {x : Option α} {k : α → Option β} (h : q_cl x k = some r) : ∃ a, x = some a ∧ k a = some r := by
  cases x with
  | none => cases h
  | some a => exact ⟨a, rfl, h⟩
theorem q_chk_s {b : Bool} {x : Option β} (h : q_chk b x = some r) : b = true ∧ x = some r := by
  cases b with
  | false => cases h
  | true => exact ⟨rfl, h⟩
theorem q_inb_in {i : Int32} {n : Nat} (h : q_inb i n = true) : vp_in i n := of_decide_eq_true (p := ¬ (i < 0 ∨ n ≤ i.toNatClampNeg)) h
theorem q_rd_s {σ : qS} {k n : Nat} {i : Int32} {K : Int32 → Option β} (h : q_rd σ k n i K = some r) : ∃ v, vp_in i n ∧ σ k i.toNatClampNeg = v ∧ K v = some r := by
  obtain ⟨h1, h2⟩ := q_chk_s h
  exact ⟨_, q_inb_in h1, rfl, h2⟩
theorem q_rdL_s {σ : qL} {k n : Nat} {i : Int32} {K : Int64 → Option β} (h : q_rdL σ k n i K = some r) : ∃ v, vp_in i n ∧ σ k i.toNatClampNeg = v ∧ K v = some r := by
  obtain ⟨h1, h2⟩ := q_chk_s h
  exact ⟨_, q_inb_in h1, rfl, h2⟩
theorem q_wr_s {σ : qS} {k n : Nat} {i x : Int32} {K : qS → Option β} (h : q_wr σ k n i x K = some r) : ∃ v, vp_in i n ∧ q_up σ k (upd (σ k) i.toNatClampNeg x) = v ∧ K v = some r := by
  obtain ⟨h1, h2⟩ := q_chk_s h
  exact ⟨_, q_inb_in h1, rfl, h2⟩
theorem q_wrZ_s {σ : qS} {k n : Nat} {i x : Int32} {K : qS → Option β} (h : q_wrZ σ k n i x K = some r) : ∃ v, vp_in i n ∧ q_up σ k (upd (σ k) i.toNatClampNeg (vp_nar .boolean x)) = v ∧ K v = some r := by
  obtain ⟨h1, h2⟩ := q_chk_s h
  exact ⟨_, q_inb_in h1, rfl, h2⟩
theorem q_wrL_s {σ : qL} {k n : Nat} {i : Int32} {x : Int64} {K : qL → Option β} (h : q_wrL σ k n i x K = some r) : ∃ v, vp_in i n ∧ q_upL σ k (vp_updL (σ k) i.toNatClampNeg x) = v ∧ K v = some r := by
  obtain ⟨h1, h2⟩ := q_chk_s h
  exact ⟨_, q_inb_in h1, rfl, h2⟩
theorem q_nz_s {y : Int32} {x : Option β} (h : q_nz y x = some r) : ¬ y = 0 ∧ x = some r := by
  unfold q_nz at h
  by_cases z : y = 0
  · rw [if_pos z] at h; cases h
  · rw [if_neg z] at h; exact ⟨z, h⟩
theorem q_nzL_s {y : Int64} {x : Option β} (h : q_nzL y x = some r) : ¬ y = 0 ∧ x = some r := by
  unfold q_nzL at h
  by_cases z : y = 0
  · rw [if_pos z] at h; cases h
  · rw [if_neg z] at h; exact ⟨z, h⟩
theorem q_if_t {c : Prop} [Decidable c] {a b : Option β} (hc : c) (h : (if c then a else b) = some r) : a = some r := by rwa [if_pos hc] at h
theorem q_if_f {c : Prop} [Decidable c] {a b : Option β} (hc : ¬ c) (h : (if c then a else b) = some r) : b = some r := by rwa [if_neg hc] at h
theorem q_isB_nar {v : Int32} (h : q_isB v = true) : narrow .boolean (.int v) = .int v := by
  unfold q_isB at h
  rw [Bool.or_eq_true, beq_iff_eq, beq_iff_eq] at h
  rcases h with rfl | rfl <;> decide
end QB
/-- a new Close -/
def qC0 : qS := fun k => bif Nat.beq k 99 then (fun k => if k = 8 then 10 else 0) else bif Nat.beq k 1 then (fun _ => 5) else bif Nat.beq k 3 then (fun _ => (-6)) else bif Nat.beq k 4 then (fun j => nI j) else (fun _ => 0)
end
section
/-! the worlds -/
def oX2 (I : Nat → Int32) : List Value := [.int (I 0), .int (I 1), .int (I 2), .int (I 3), .int (I 4), .int (I 5)]
def oX3 (A : Nat → Nat) (I : Nat → Int32) : List Value := [.ref (A 0), .int (I 1)]
def oX4 (A : Nat → Nat) (I : Nat → Int32) : List Value := [.ref (A 0), .ref (A 1), .ref (A 2), .int (I 3)]
def oX5 (A : Nat → Nat) (v : Value) : List Value := [.ref (A 0), .ref (A 1), v]
def oX0 (A : Nat → Nat) : List Value := [.ref (A 0), .ref (A 1), .ref (A 2)]
def oX6 (A : Nat → Nat) : List Value := [.ref (A 0), .ref (A 1), .ref (A 2), .ref (A 3), .ref (A 4), .ref (A 5), .ref (A 6), .ref (A 7)]
abbrev wR (g : GT) (q n : Nat) (σ : qS) : va_W := [aI g q n (σ 0)]
abbrev wRL (g : GT) (q n : Nat) (σ : qL) : va_W := [aJ g q n (σ 0)]
abbrev wH (g : GT) (q : Nat) (σ : qS) : va_W := [aI g q 10240 (σ 0)]
abbrev wG (g : GT) (q : Nat) (Q : Nat → Option Nat) : va_W := [aQ g q 2 Q]
abbrev wX0 (g : GT) (q : Nat) (A : Nat → Nat) (σ : qS) (τ : qL) : va_W := [(q, .inr (0, oX0 A)), aJ g (A 0) 11 (τ 0), aJ g (A 1) 11 (τ 1), aI g (A 2) 61 (σ 2)]
abbrev wX1 (g : GT) (q : Nat) (A : Nat → Nat) (σ : qS) : va_W := [(q, .inr (1, oC A (σ 99))), aI g (A 0) 121 (σ 0), aI g (A 1) 10 (σ 1), aI g (A 2) 10 (σ 2), aI g (A 3) 10 (σ 3), aI g (A 4) 10 (σ 4), aI g (A 5) 8 (σ 5), aI g (A 6) 8 (σ 6)]
abbrev wX2 (q : Nat) (σ : qS) : va_W := [(q, .inr (2, oX2 (σ 99)))]
abbrev wX3 (g : GT) (q : Nat) (A : Nat → Nat) (σ : qS) : va_W := [(q, .inr (3, oX3 A (σ 99))), aI g (A 0) 60 (σ 0)]
abbrev wX4 (g : GT) (q : Nat) (A : Nat → Nat) (σ : qS) : va_W := [(q, .inr (4, oX4 A (σ 99))), aI g (A 0) 410 (σ 0), aI g (A 1) 50 (σ 1), aI g (A 2) 10 (σ 2)]
abbrev wX5 (g : GT) (q : Nat) (A : Nat → Nat) (v : Value) (σ : qS) : va_W := [(q, .inr (5, oX5 A v)), aI g (A 0) 121 (σ 0), aI g (A 1) 11 (σ 1)]
abbrev wX6 (q : Nat) (A : Nat → Nat) : va_W := [(q, .inr (6, oX6 A))]
section QLP
variable {p : Program} {l : Launch} {e : Env} {R : Room} {s : State} {m : MethodId} {args : Array Value} {below : List Frame} {meth : Method} {c : Code} {H : Heap} {locs : List Loc} {cells slots : Nat}
variable {pc : Nat} {ls : Array Slot} {g : GT} {A : Nat → Prop}
/-- a loop: behind it (k), and once through it -/
theorem q_loop {σ T : Type} {x : T} {Q : State → Prop} {H0 : Heap} {nL : Nat} {body : (σ → Option T) → (σ → Option T) → σ → Option T} {k : σ → Option T} {N : Nat} {s0 : σ} (w : σ → va_W) (lv : σ → List (Nat × Value)) (pcE : Nat)
    (h0 : q_lp body k N s0 = some x)
    (hk : ∀ u, k u = some x → ∀ (H : Heap) (locs : List Loc) (ls : Array Slot), va_P g.1 vwCl (w u) H → va_D A (w u) → va_S A H0 H locs → lv_has ls nL (lv u) → W p l e R s m args below meth c H locs cells slots Q (F0 m pcE ls []))
    (hb : ∀ (k again : σ → Option T), (∀ u, k u = some x → ∀ (H : Heap) (locs : List Loc) (ls : Array Slot), va_P g.1 vwCl (w u) H → va_D A (w u) → va_S A H0 H locs → lv_has ls nL (lv u) → W p l e R s m args below meth c H locs cells slots Q (F0 m pcE ls [])) →
      (∀ u, again u = some x → ∀ (H : Heap) (locs : List Loc) (ls : Array Slot), va_P g.1 vwCl (w u) H → va_D A (w u) → va_S A H0 H locs → lv_has ls nL (lv u) → W p l e R s m args below meth c H locs cells slots Q (F0 m pc ls [])) →
      ∀ u, body k again u = some x → ∀ (H : Heap) (locs : List Loc) (ls : Array Slot), va_P g.1 vwCl (w u) H → va_D A (w u) → va_S A H0 H locs → lv_has ls nL (lv u) → W p l e R s m args below meth c H locs cells slots Q (F0 m pc ls []))
    (hP : va_P g.1 vwCl (w s0) H) (hD : va_D A (w s0)) (hS : va_S A H0 H locs) (hl : lv_has ls nL (lv s0)) : W p l e R s m args below meth c H locs cells slots Q (F0 m pc ls []) := by
  have all : ∀ n u, q_lp body k n u = some x → ∀ (H : Heap) (locs : List Loc) (ls : Array Slot), va_P g.1 vwCl (w u) H → va_D A (w u) → va_S A H0 H locs → lv_has ls nL (lv u) → W p l e R s m args below meth c H locs cells slots Q (F0 m pc ls []) := by
    intro n
    induction n with
    | zero => intro u h; cases h
    | succ n ih => exact fun u h => hb k (q_lp body k n) hk ih u h
  exact all N s0 h0 H locs ls hP hD hS hl
theorem q_loopP {σ T : Type} {x : T} {Q : State → Prop} {nL : Nat} {body : (σ → Option T) → (σ → Option T) → σ → Option T} {k : σ → Option T} {N : Nat} {s0 : σ} (lv : σ → List (Nat × Value)) (pcE : Nat)
    (h0 : q_lp body k N s0 = some x)
    (hk : ∀ u, k u = some x → ∀ (ls : Array Slot), lv_has ls nL (lv u) → W p l e R s m args below meth c H locs cells slots Q (F0 m pcE ls []))
    (hb : ∀ (k again : σ → Option T), (∀ u, k u = some x → ∀ (ls : Array Slot), lv_has ls nL (lv u) → W p l e R s m args below meth c H locs cells slots Q (F0 m pcE ls [])) →
      (∀ u, again u = some x → ∀ (ls : Array Slot), lv_has ls nL (lv u) → W p l e R s m args below meth c H locs cells slots Q (F0 m pc ls [])) →
      ∀ u, body k again u = some x → ∀ (ls : Array Slot), lv_has ls nL (lv u) → W p l e R s m args below meth c H locs cells slots Q (F0 m pc ls []))
    (hl : lv_has ls nL (lv s0)) : W p l e R s m args below meth c H locs cells slots Q (F0 m pc ls []) := by
  have all : ∀ n u, q_lp body k n u = some x → ∀ (ls : Array Slot), lv_has ls nL (lv u) → W p l e R s m args below meth c H locs cells slots Q (F0 m pc ls []) := by
    intro n
    induction n with
    | zero => intro u h; cases h
    | succ n ih => exact fun u h => hb k (q_lp body k n) hk ih u h
  exact all N s0 h0 ls hl
end QLP
end
