/-! ===== BEGIN words of one list among another's, by their places ===== -/
theorem goodIn_r {big : List Cond} (ws : List Cond) (ps : List Nat) (hp : ws = ps.filterMap (fun i => big[i]?)) (h : ws.all goodWord = true) : GoodIn big ws := by
  intro w hw
  have h1 := List.all_eq_true.mp h w hw
  rw [hp] at hw
  obtain ⟨i, -, hi⟩ := List.mem_filterMap.mp hw
  have hm : w ∈ big := by first | exact List.mem_of_getElem? hi | exact List.getElem?_mem hi
  exact ⟨hm, good_of_word h1⟩
theorem goodIn_app {big a b : List Cond} (ha : GoodIn big a) (hb : GoodIn big b) : GoodIn big (a ++ b) := fun w h => (List.mem_append.mp h).elim (ha w) (hb w)
theorem goodIn_ca {big a b : List Cond} {c : Cond} (ha : GoodIn big (c :: a)) (hb : GoodIn big b) : GoodIn big (c :: (a ++ b)) := fun w h => (List.mem_cons.mp h).elim (fun e => ha w (List.mem_cons.mpr (Or.inl e))) (fun h => (List.mem_append.mp h).elim (fun h => ha w (List.mem_cons.mpr (Or.inr h))) (hb w))
theorem goodIn_sub {big ws : List Cond} (hm : ∀ w ∈ ws, w ∈ big) (h : ws.all goodWord = true) : GoodIn big ws := fun w hw => ⟨hm w hw, good_of_word (List.all_eq_true.mp h w hw)⟩
/-! ===== END ===== -/

/-! ===== BEGIN printed: names, fields, word lists, decode rows ===== -/
def RX0 : String := "CoatsHall$Claims"
def TX0 : u_T := fun k => match k with
  | 0 => ("CoatsHall$Claims", "number", "I", false)
  | 1 => ("CoatsHall$Claims", "guest", "[I", true)
  | 2 => ("CoatsHall$Claims", "yes", "[I", true)
  | _ => ("CoatsHall$Claims", "no", "[I", true)
def tyX0 : Nat → FieldType := fun k => match k with
  | 0 => .int
  | 1 => .array .int
  | 2 => .array .int
  | _ => .array .int
noncomputable abbrev wsX00 : List Cond := u_ws RX0 TX0 4
theorem nmX0 : ∀ a, a < 4 → ∀ b, b < 4 → a ≠ b → (TX0 a).2.1 ≠ (TX0 b).2.1 := by decide +kernel
theorem tyX0_ok : ∀ k, k < 4 → parseFieldDescriptor (TX0 k).2.2.1 = some (tyX0 k) := by decide +kernel
noncomputable abbrev cX0_init : ByteArray := prog_2_method_1_code
noncomputable def yX0_init : MethodName := ⟨RX0, "<init>", "()V"⟩
noncomputable abbrev cX0_copyFrom : ByteArray := prog_2_method_2_code
noncomputable def yX0_copyFrom : MethodName := ⟨RX0, "copyFrom", "(LCoatsHall$Claims;)V"⟩
noncomputable abbrev cX0_knows : ByteArray := prog_2_method_3_code
noncomputable def yX0_knows : MethodName := ⟨RX0, "knows", "(I)Z"⟩
noncomputable abbrev cX0_isOf : ByteArray := prog_2_method_4_code
noncomputable def yX0_isOf : MethodName := ⟨RX0, "isOf", "(I)Z"⟩
noncomputable abbrev cX0_guestOf : ByteArray := prog_2_method_5_code
noncomputable def yX0_guestOf : MethodName := ⟨RX0, "guestOf", "(I)I"⟩
noncomputable abbrev cX0_add : ByteArray := prog_2_method_6_code
noncomputable def yX0_add : MethodName := ⟨RX0, "add", "(III)I"⟩
noncomputable abbrev cX0_remove : ByteArray := prog_2_method_7_code
noncomputable def yX0_remove : MethodName := ⟨RX0, "remove", "(I)V"⟩
noncomputable abbrev cX0_thingsFor : ByteArray := prog_2_method_8_code
noncomputable def yX0_thingsFor : MethodName := ⟨RX0, "thingsFor", "(ILCoatsHall$Guests;)I"⟩
noncomputable abbrev cX0_fewestAsked : ByteArray := prog_2_method_9_code
noncomputable def yX0_fewestAsked : MethodName := ⟨RX0, "fewestAsked", "(ILCoatsHall$Guests;)I"⟩
noncomputable abbrev cX0_howManyAgree : ByteArray := prog_2_method_10_code
noncomputable def yX0_howManyAgree : MethodName := ⟨RX0, "howManyAgree", "(IIILCoatsHall$Guests;)I"⟩
def RX1 : String := "CoatsHall$Events"
def TX1 : u_T := fun k => match k with
  | 0 => ("CoatsHall$Events", "number", "I", false)
  | _ => ("CoatsHall$Events", "facts", "[I", true)
def tyX1 : Nat → FieldType := fun k => match k with
  | 0 => .int
  | _ => .array .int
noncomputable abbrev wsX10 : List Cond := u_ws RX1 TX1 2
theorem nmX1 : ∀ a, a < 2 → ∀ b, b < 2 → a ≠ b → (TX1 a).2.1 ≠ (TX1 b).2.1 := by decide +kernel
theorem tyX1_ok : ∀ k, k < 2 → parseFieldDescriptor (TX1 k).2.2.1 = some (tyX1 k) := by decide +kernel
noncomputable abbrev cX1_init : ByteArray := prog_3_method_1_code
noncomputable def yX1_init : MethodName := ⟨RX1, "<init>", "()V"⟩
noncomputable abbrev cX1_copyFrom : ByteArray := prog_3_method_2_code
noncomputable def yX1_copyFrom : MethodName := ⟨RX1, "copyFrom", "(LCoatsHall$Events;)V"⟩
noncomputable abbrev cX1_knows : ByteArray := prog_3_method_3_code
noncomputable def yX1_knows : MethodName := ⟨RX1, "knows", "(I)Z"⟩
noncomputable abbrev cX1_isFull : ByteArray := prog_3_method_4_code
noncomputable def yX1_isFull : MethodName := ⟨RX1, "isFull", "()Z"⟩
noncomputable abbrev cX1_add : ByteArray := prog_3_method_5_code
noncomputable def yX1_add : MethodName := ⟨RX1, "add", "(IIIIII)I"⟩
noncomputable abbrev cX1_factOf : ByteArray := prog_3_method_6_code
noncomputable def yX1_factOf : MethodName := ⟨RX1, "factOf", "(II)I"⟩
noncomputable abbrev cX1_find : ByteArray := prog_3_method_7_code
noncomputable def yX1_find : MethodName := ⟨RX1, "find", "(II)I"⟩
noncomputable abbrev cX1_wasWrong : ByteArray := prog_3_method_8_code
noncomputable def yX1_wasWrong : MethodName := ⟨RX1, "wasWrong", "(I)Z"⟩
noncomputable abbrev cX1_firstWrong : ByteArray := prog_3_method_9_code
noncomputable def yX1_firstWrong : MethodName := ⟨RX1, "firstWrong", "(I)I"⟩
def RX2 : String := "CoatsHall$Guests"
def TX2 : u_T := fun k => match k with
  | 0 => ("CoatsHall$Guests", "number", "I", false)
  | 1 => ("CoatsHall$Guests", "sort", "[I", true)
  | 2 => ("CoatsHall$Guests", "kind", "[I", true)
  | 3 => ("CoatsHall$Guests", "tip", "[I", true)
  | 4 => ("CoatsHall$Guests", "marks", "[I", true)
  | 5 => ("CoatsHall$Guests", "brass", "[I", true)
  | 6 => ("CoatsHall$Guests", "peg", "[I", true)
  | _ => ("CoatsHall$Guests", "has", "[I", true)
def tyX2 : Nat → FieldType := fun k => match k with
  | 0 => .int
  | 1 => .array .int
  | 2 => .array .int
  | 3 => .array .int
  | 4 => .array .int
  | 5 => .array .int
  | 6 => .array .int
  | _ => .array .int
noncomputable abbrev wsX20 : List Cond := u_ws RX2 TX2 8
def nmh (s : String) : Nat := s.toList.foldl (fun h c => h * 131 + c.toNat) 0
def nmk (h : Nat) : List (Nat × Nat) → Nat
  | [] => 0
  | x :: l => if Nat.beq x.1 h = true then x.2 else nmk h l
theorem nm_of {N : Nat} {F : Nat → String} {f : String → Nat} (h : (List.range N).all (fun a => Nat.beq (f (F a)) a) = true) : ∀ a, a < N → ∀ b, b < N → a ≠ b → F a ≠ F b := fun a ha b hb hab e => by
  have h1 := Nat.eq_of_beq_eq_true (List.all_eq_true.mp h a (List.mem_range.mpr ha))
  have h2 := Nat.eq_of_beq_eq_true (List.all_eq_true.mp h b (List.mem_range.mpr hb))
  rw [e] at h1
  exact hab (h1.symm.trans h2)

def nmX2_f (s : String) : Nat := nmk (nmh s) [(4278447089409, 0), (260450386, 1), (242362152, 2), (2004543, 3), (32320526702, 4), (29118954429, 5), (1935366, 6), (1797566, 7)]
theorem nmX2_i : (List.range 8).all (fun a => Nat.beq (nmX2_f (TX2 a).2.1) a) = true := by decide +kernel
theorem nmX2 : ∀ a, a < 8 → ∀ b, b < 8 → a ≠ b → (TX2 a).2.1 ≠ (TX2 b).2.1 := nm_of (F := fun a => (TX2 a).2.1) (f := nmX2_f) nmX2_i
theorem tyX2_ok : ∀ k, k < 8 → parseFieldDescriptor (TX2 k).2.2.1 = some (tyX2 k) := by decide +kernel
noncomputable abbrev cX2_init : ByteArray := prog_4_method_1_code
noncomputable def yX2_init : MethodName := ⟨RX2, "<init>", "()V"⟩
noncomputable abbrev cX2_copyFrom : ByteArray := prog_4_method_2_code
noncomputable def yX2_copyFrom : MethodName := ⟨RX2, "copyFrom", "(LCoatsHall$Guests;)V"⟩
noncomputable abbrev cX2_knows : ByteArray := prog_4_method_3_code
noncomputable def yX2_knows : MethodName := ⟨RX2, "knows", "(I)Z"⟩
noncomputable abbrev cX2_add : ByteArray := prog_4_method_4_code
noncomputable def yX2_add : MethodName := ⟨RX2, "add", "(IIII)I"⟩
noncomputable abbrev cX2_kindOf : ByteArray := prog_4_method_5_code
noncomputable def yX2_kindOf : MethodName := ⟨RX2, "kindOf", "(I)I"⟩
noncomputable abbrev cX2_marksOf : ByteArray := prog_4_method_6_code
noncomputable def yX2_marksOf : MethodName := ⟨RX2, "marksOf", "(I)I"⟩
noncomputable abbrev cX2_hangs : ByteArray := prog_4_method_7_code
noncomputable def yX2_hangs : MethodName := ⟨RX2, "hangs", "(I)Z"⟩
noncomputable abbrev cX2_ownerOn : ByteArray := prog_4_method_8_code
noncomputable def yX2_ownerOn : MethodName := ⟨RX2, "ownerOn", "(I)I"⟩
noncomputable abbrev cX2_holderOf : ByteArray := prog_4_method_9_code
noncomputable def yX2_holderOf : MethodName := ⟨RX2, "holderOf", "(I)I"⟩
noncomputable abbrev cX2_brassIsOut : ByteArray := prog_4_method_10_code
noncomputable def yX2_brassIsOut : MethodName := ⟨RX2, "brassIsOut", "(I)Z"⟩
noncomputable abbrev cX2_handOver : ByteArray := prog_4_method_11_code
noncomputable def yX2_handOver : MethodName := ⟨RX2, "handOver", "(II)V"⟩
noncomputable abbrev cX2_isAstray : ByteArray := prog_4_method_12_code
noncomputable def yX2_isAstray : MethodName := ⟨RX2, "isAstray", "(I)Z"⟩
noncomputable abbrev cX2_nextInChain : ByteArray := prog_4_method_13_code
noncomputable def yX2_nextInChain : MethodName := ⟨RX2, "nextInChain", "(II)I"⟩
noncomputable abbrev cX2_chainLength : ByteArray := prog_4_method_14_code
noncomputable def yX2_chainLength : MethodName := ⟨RX2, "chainLength", "(I)I"⟩
noncomputable abbrev cX2_chainMember : ByteArray := prog_4_method_15_code
noncomputable def yX2_chainMember : MethodName := ⟨RX2, "chainMember", "(II)I"⟩
noncomputable abbrev cX2_comesRound : ByteArray := prog_4_method_16_code
noncomputable def yX2_comesRound : MethodName := ⟨RX2, "comesRound", "(I)Z"⟩
noncomputable abbrev cX2_isLeastOfRing : ByteArray := prog_4_method_17_code
noncomputable def yX2_isLeastOfRing : MethodName := ⟨RX2, "isLeastOfRing", "(I)Z"⟩
def RX3 : String := "CoatsHall$Hall"
def TX3 : u_T := fun k => match k with
  | 0 => ("CoatsHall$Hall", "kind", "[I", true)
  | 1 => ("CoatsHall$Hall", "walk", "[I", true)
  | 2 => ("CoatsHall$Hall", "share", "[I", true)
  | 3 => ("CoatsHall$Hall", "weight", "[I", true)
  | 4 => ("CoatsHall$Hall", "pegs", "I", false)
  | 5 => ("CoatsHall$Hall", "ticks", "I", false)
  | _ => ("CoatsHall$Hall", "loss", "I", false)
def tyX3 : Nat → FieldType := fun k => match k with
  | 0 => .array .int
  | 1 => .array .int
  | 2 => .array .int
  | 3 => .array .int
  | 4 => .int
  | 5 => .int
  | _ => .int
noncomputable abbrev wsX30 : List Cond := u_ws RX3 TX3 7
def nmX3_f (s : String) : Nat := nmk (nmh s) [(242362152, 0), (269201701, 1), (34102972031, 2), (4620941591368, 3), (253533061, 4), (34399753462, 5), (244713879, 6)]
theorem nmX3_i : (List.range 7).all (fun a => Nat.beq (nmX3_f (TX3 a).2.1) a) = true := by decide +kernel
theorem nmX3 : ∀ a, a < 7 → ∀ b, b < 7 → a ≠ b → (TX3 a).2.1 ≠ (TX3 b).2.1 := nm_of (F := fun a => (TX3 a).2.1) (f := nmX3_f) nmX3_i
theorem tyX3_ok : ∀ k, k < 7 → parseFieldDescriptor (TX3 k).2.2.1 = some (tyX3 k) := by decide +kernel
noncomputable abbrev cX3_init : ByteArray := prog_5_method_1_code
noncomputable def yX3_init : MethodName := ⟨RX3, "<init>", "()V"⟩
noncomputable abbrev cX3_clear : ByteArray := prog_5_method_2_code
noncomputable def yX3_clear : MethodName := ⟨RX3, "clear", "()V"⟩
noncomputable abbrev cX3_tellWeights : ByteArray := prog_5_method_3_code
noncomputable def yX3_tellWeights : MethodName := ⟨RX3, "tellWeights", "(III)V"⟩
noncomputable abbrev cX3_tellShares : ByteArray := prog_5_method_4_code
noncomputable def yX3_tellShares : MethodName := ⟨RX3, "tellShares", "(IIII)V"⟩
noncomputable abbrev cX3_addRow : ByteArray := prog_5_method_5_code
noncomputable def yX3_addRow : MethodName := ⟨RX3, "addRow", "(III)V"⟩
noncomputable abbrev cX3_hasPeg : ByteArray := prog_5_method_6_code
noncomputable def yX3_hasPeg : MethodName := ⟨RX3, "hasPeg", "(I)Z"⟩
noncomputable abbrev cX3_isOfKind : ByteArray := prog_5_method_7_code
noncomputable def yX3_isOfKind : MethodName := ⟨RX3, "isOfKind", "(II)Z"⟩
noncomputable abbrev cX3_walkOf : ByteArray := prog_5_method_8_code
noncomputable def yX3_walkOf : MethodName := ⟨RX3, "walkOf", "(I)I"⟩
noncomputable abbrev cX3_shareOf : ByteArray := prog_5_method_9_code
noncomputable def yX3_shareOf : MethodName := ⟨RX3, "shareOf", "(II)I"⟩
noncomputable abbrev cX3_weightOf : ByteArray := prog_5_method_10_code
noncomputable def yX3_weightOf : MethodName := ⟨RX3, "weightOf", "(I)I"⟩
def RX4 : String := "CoatsHall$Image"
def TX4 : u_T := fun k => match k with
  | 0 => ("CoatsHall$Image", "guests", "LCoatsHall$Guests;", true)
  | 1 => ("CoatsHall$Image", "events", "LCoatsHall$Events;", true)
  | 2 => ("CoatsHall$Image", "claims", "LCoatsHall$Claims;", true)
  | 3 => ("CoatsHall$Image", "nights", "LCoatsHall$Nights;", true)
  | _ => ("CoatsHall$Image", "kept", "Z", false)
def tyX4 : Nat → FieldType := fun k => match k with
  | 0 => .object "CoatsHall$Guests"
  | 1 => .object "CoatsHall$Events"
  | 2 => .object "CoatsHall$Claims"
  | 3 => .object "CoatsHall$Nights"
  | _ => .boolean
noncomputable abbrev wsX40 : List Cond := u_ws RX4 TX4 5
theorem nmX4 : ∀ a, a < 5 → ∀ b, b < 5 → a ≠ b → (TX4 a).2.1 ≠ (TX4 b).2.1 := by decide +kernel
theorem tyX4_ok : ∀ k, k < 5 → parseFieldDescriptor (TX4 k).2.2.1 = some (tyX4 k) := by decide +kernel
noncomputable abbrev cX4_init : ByteArray := prog_6_method_1_code
noncomputable def yX4_init : MethodName := ⟨RX4, "<init>", "()V"⟩
noncomputable abbrev cX4_copyFrom : ByteArray := prog_6_method_2_code
noncomputable def yX4_copyFrom : MethodName := ⟨RX4, "copyFrom", "(LCoatsHall$Image;)V"⟩
def RX5 : String := "CoatsHall$Matching"
def TX5 : u_T := fun k => match k with
  | 0 => ("CoatsHall$Matching", "fitting", "[I", true)
  | 1 => ("CoatsHall$Matching", "waysOf", "[J", true)
  | _ => ("CoatsHall$Matching", "claims", "I", false)
def tyX5 : Nat → FieldType := fun k => match k with
  | 0 => .array .int
  | 1 => .array .long
  | _ => .int
noncomputable abbrev wsX50 : List Cond := u_ws RX5 TX5 3
theorem nmX5 : ∀ a, a < 3 → ∀ b, b < 3 → a ≠ b → (TX5 a).2.1 ≠ (TX5 b).2.1 := by decide +kernel
theorem tyX5_ok : ∀ k, k < 3 → parseFieldDescriptor (TX5 k).2.2.1 = some (tyX5 k) := by decide +kernel
noncomputable abbrev cX5_init : ByteArray := prog_7_method_1_code
noncomputable def yX5_init : MethodName := ⟨RX5, "<init>", "()V"⟩
noncomputable abbrev cX5_load : ByteArray := prog_7_method_2_code
noncomputable def yX5_load : MethodName := ⟨RX5, "load", "(LCoatsHall$Claims;LCoatsHall$Guests;)V"⟩
noncomputable abbrev cX5_number : ByteArray := prog_7_method_3_code
noncomputable def yX5_number : MethodName := ⟨RX5, "number", "()J"⟩
noncomputable abbrev cX5_addWays : ByteArray := prog_7_method_4_code
noncomputable def yX5_addWays : MethodName := ⟨RX5, "addWays", "(II)V"⟩
noncomputable abbrev cX5_onlyThingOf : ByteArray := prog_7_method_5_code
noncomputable def yX5_onlyThingOf : MethodName := ⟨RX5, "onlyThingOf", "(I)I"⟩
def RX6 : String := "CoatsHall$Nights"
def TX6 : u_T := fun k => match k with
  | 0 => ("CoatsHall$Nights", "number", "I", false)
  | _ => ("CoatsHall$Nights", "left", "[I", true)
def tyX6 : Nat → FieldType := fun k => match k with
  | 0 => .int
  | _ => .array .int
noncomputable abbrev wsX60 : List Cond := u_ws RX6 TX6 2
theorem nmX6 : ∀ a, a < 2 → ∀ b, b < 2 → a ≠ b → (TX6 a).2.1 ≠ (TX6 b).2.1 := by decide +kernel
theorem tyX6_ok : ∀ k, k < 2 → parseFieldDescriptor (TX6 k).2.2.1 = some (tyX6 k) := by decide +kernel
noncomputable abbrev cX6_init : ByteArray := prog_8_method_1_code
noncomputable def yX6_init : MethodName := ⟨RX6, "<init>", "()V"⟩
noncomputable abbrev cX6_copyFrom : ByteArray := prog_8_method_2_code
noncomputable def yX6_copyFrom : MethodName := ⟨RX6, "copyFrom", "(LCoatsHall$Nights;)V"⟩
noncomputable abbrev cX6_add : ByteArray := prog_8_method_3_code
noncomputable def yX6_add : MethodName := ⟨RX6, "add", "(IIIII)I"⟩
noncomputable abbrev cX6_oddsOf : ByteArray := prog_8_method_4_code
noncomputable def yX6_oddsOf : MethodName := ⟨RX6, "oddsOf", "(III)I"⟩
def RX7 : String := "CoatsHall$Plan"
def TX7 : u_T := fun k => match k with
  | 0 => ("CoatsHall$Plan", "expected", "[I", true)
  | 1 => ("CoatsHall$Plan", "pegFor", "[I", true)
  | 2 => ("CoatsHall$Plan", "taken", "[Z", true)
  | _ => ("CoatsHall$Plan", "sum", "I", false)
def tyX7 : Nat → FieldType := fun k => match k with
  | 0 => .array .int
  | 1 => .array .int
  | 2 => .array .boolean
  | _ => .int
noncomputable abbrev wsX70 : List Cond := u_ws RX7 TX7 4
theorem nmX7 : ∀ a, a < 4 → ∀ b, b < 4 → a ≠ b → (TX7 a).2.1 ≠ (TX7 b).2.1 := by decide +kernel
theorem tyX7_ok : ∀ k, k < 4 → parseFieldDescriptor (TX7 k).2.2.1 = some (tyX7 k) := by decide +kernel
noncomputable abbrev cX7_init : ByteArray := prog_9_method_1_code
noncomputable def yX7_init : MethodName := ⟨RX7, "<init>", "()V"⟩
noncomputable abbrev cX7_pegOf : ByteArray := prog_9_method_2_code
noncomputable def yX7_pegOf : MethodName := ⟨RX7, "pegOf", "(I)I"⟩
noncomputable abbrev cX7_make : ByteArray := prog_9_method_3_code
noncomputable def yX7_make : MethodName := ⟨RX7, "make", "(ZLCoatsHall$Guests;LCoatsHall$Hall;)Z"⟩
noncomputable abbrev cX7_greatestLeft : ByteArray := prog_9_method_4_code
noncomputable def yX7_greatestLeft : MethodName := ⟨RX7, "greatestLeft", "(LCoatsHall$Guests;)I"⟩
noncomputable abbrev cX7_leastWalkLeft : ByteArray := prog_9_method_5_code
noncomputable def yX7_leastWalkLeft : MethodName := ⟨RX7, "leastWalkLeft", "(ILCoatsHall$Hall;)I"⟩
def RX8 : String := "CoatsHall$Reader"
def TX8 : u_T := fun k => match k with
  | 0 => ("CoatsHall$Reader", "text", "[B", true)
  | 1 => ("CoatsHall$Reader", "length", "I", false)
  | 2 => ("CoatsHall$Reader", "place", "I", false)
  | 3 => ("CoatsHall$Reader", "failure", "I", false)
  | 4 => ("CoatsHall$Reader", "at", "I", false)
  | 5 => ("CoatsHall$Reader", "firstFigure", "I", false)
  | 6 => ("CoatsHall$Reader", "toldBefore", "I", false)
  | _ => ("CoatsHall$Reader", "draft", "LCoatsHall$Hall;", false)
def tyX8 : Nat → FieldType := fun k => match k with
  | 0 => .array .byte
  | 1 => .int
  | 2 => .int
  | 3 => .int
  | 4 => .int
  | 5 => .int
  | 6 => .int
  | _ => .object "CoatsHall$Hall"
noncomputable abbrev wsX80 : List Cond := u_ws RX8 TX8 8
def nmX8_f (s : String) : Nat := nmk (nmh s) [(262527653, 0), (4196578447222, 1), (33228462667, 2), (519272518521214, 3), (12823, 4), (153017394134723653613512, 5), (1327651235230780280850, 6), (29707952569, 7)]
theorem nmX8_i : (List.range 8).all (fun a => Nat.beq (nmX8_f (TX8 a).2.1) a) = true := by decide +kernel
theorem nmX8 : ∀ a, a < 8 → ∀ b, b < 8 → a ≠ b → (TX8 a).2.1 ≠ (TX8 b).2.1 := nm_of (F := fun a => (TX8 a).2.1) (f := nmX8_f) nmX8_i
theorem tyX8_ok : ∀ k, k < 8 → parseFieldDescriptor (TX8 k).2.2.1 = some (tyX8 k) := by decide +kernel
noncomputable abbrev cX8_init : ByteArray := prog_10_method_1_code
noncomputable def yX8_init : MethodName := ⟨RX8, "<init>", "()V"⟩
noncomputable abbrev cX8_append : ByteArray := prog_10_method_2_code
noncomputable def yX8_append : MethodName := ⟨RX8, "append", "(IJ)I"⟩
noncomputable abbrev cX8_read : ByteArray := prog_10_method_3_code
noncomputable def yX8_read : MethodName := ⟨RX8, "read", "()I"⟩
noncomputable abbrev cX8_changeDraft : ByteArray := prog_10_method_4_code
noncomputable def yX8_changeDraft : MethodName := ⟨RX8, "changeDraft", "(LCoatsHall$Hall;)LCoatsHall$Hall;"⟩
noncomputable abbrev cX8_readClause : ByteArray := prog_10_method_5_code
noncomputable def yX8_readClause : MethodName := ⟨RX8, "readClause", "()V"⟩
noncomputable abbrev cX8_readRow : ByteArray := prog_10_method_6_code
noncomputable def yX8_readRow : MethodName := ⟨RX8, "readRow", "()V"⟩
noncomputable abbrev cX8_readOdds : ByteArray := prog_10_method_7_code
noncomputable def yX8_readOdds : MethodName := ⟨RX8, "readOdds", "()V"⟩
noncomputable abbrev cX8_readWeights : ByteArray := prog_10_method_8_code
noncomputable def yX8_readWeights : MethodName := ⟨RX8, "readWeights", "()V"⟩
noncomputable abbrev cX8_tellOnce : ByteArray := prog_10_method_9_code
noncomputable def yX8_tellOnce : MethodName := ⟨RX8, "tellOnce", "(II)V"⟩
noncomputable abbrev cX8_fail : ByteArray := prog_10_method_10_code
noncomputable def yX8_fail : MethodName := ⟨RX8, "fail", "(II)V"⟩
noncomputable abbrev cX8_skipBlanks : ByteArray := prog_10_method_11_code
noncomputable def yX8_skipBlanks : MethodName := ⟨RX8, "skipBlanks", "()V"⟩
noncomputable abbrev cX8_byteAt : ByteArray := prog_10_method_12_code
noncomputable def yX8_byteAt : MethodName := ⟨RX8, "byteAt", "(I)I"⟩
noncomputable abbrev cX8_isFigure : ByteArray := prog_10_method_13_code
noncomputable def yX8_isFigure : MethodName := ⟨RX8, "isFigure", "(I)Z"⟩
noncomputable abbrev cX8_isHere : ByteArray := prog_10_method_14_code
noncomputable def yX8_isHere : MethodName := ⟨RX8, "isHere", "(Ljava/lang/String;)Z"⟩
noncomputable abbrev cX8_needWord : ByteArray := prog_10_method_15_code
noncomputable def yX8_needWord : MethodName := ⟨RX8, "needWord", "(Ljava/lang/String;)V"⟩
noncomputable abbrev cX8_needEnd : ByteArray := prog_10_method_16_code
noncomputable def yX8_needEnd : MethodName := ⟨RX8, "needEnd", "()V"⟩
noncomputable abbrev cX8_needNumber : ByteArray := prog_10_method_17_code
noncomputable def yX8_needNumber : MethodName := ⟨RX8, "needNumber", "(II)I"⟩
def RX9 : String := "CoatsHall$Rush"
def tn {α : Type} (d : α) : List α → Nat → α
  | [], _ => d
  | a :: _, 0 => a
  | _ :: l, n + 1 => tn d l n
def TX9 : u_T := tn (("CoatsHall$Rush", "bestWaits", "I", false)) [("CoatsHall$Rush", "ticks", "[I", true), ("CoatsHall$Rush", "tip", "[I", true), ("CoatsHall$Rush", "row", "[I", true), ("CoatsHall$Rush", "freeAt", "[I", true), ("CoatsHall$Rush", "waits", "[I", true), ("CoatsHall$Rush", "greatest", "[I", true), ("CoatsHall$Rush", "tips", "[I", true), ("CoatsHall$Rush", "best", "[I", true), ("CoatsHall$Rush", "size", "I", false), ("CoatsHall$Rush", "loss", "I", false), ("CoatsHall$Rush", "bestTips", "I", false)]
def tyX9 : Nat → FieldType := tn (.int) [.array .int, .array .int, .array .int, .array .int, .array .int, .array .int, .array .int, .array .int, .int, .int, .int]
noncomputable abbrev wsX90 : List Cond := u_ws RX9 TX9 12
def nmX9_f (s : String) : Nat := nmk (nmh s) [(34399753462, 0), (2004543, 1), (1971014, 2), (3968909734479, 3), (35265372642, 4), (68772521511705653, 5), (262595248, 6), (222061360, 7), (260348453, 8), (244713879, 9), (65397053167808896, 10), (8567013965848360530, 11)]
theorem nmX9_i : (List.range 12).all (fun a => Nat.beq (nmX9_f (TX9 a).2.1) a) = true := by decide +kernel
theorem nmX9 : ∀ a, a < 12 → ∀ b, b < 12 → a ≠ b → (TX9 a).2.1 ≠ (TX9 b).2.1 := nm_of (F := fun a => (TX9 a).2.1) (f := nmX9_f) nmX9_i
theorem tyX9_ok : ∀ k, k < 12 → parseFieldDescriptor (TX9 k).2.2.1 = some (tyX9 k) := by decide +kernel
noncomputable abbrev cX9_init : ByteArray := prog_11_method_1_code
noncomputable def yX9_init : MethodName := ⟨RX9, "<init>", "()V"⟩
noncomputable abbrev cX9_load : ByteArray := prog_11_method_2_code
noncomputable def yX9_load : MethodName := ⟨RX9, "load", "(ILCoatsHall$Guests;LCoatsHall$Hall;)V"⟩
noncomputable abbrev cX9_sumOfWaits : ByteArray := prog_11_method_3_code
noncomputable def yX9_sumOfWaits : MethodName := ⟨RX9, "sumOfWaits", "()I"⟩
noncomputable abbrev cX9_greatestWait : ByteArray := prog_11_method_4_code
noncomputable def yX9_greatestWait : MethodName := ⟨RX9, "greatestWait", "()I"⟩
noncomputable abbrev cX9_sumOfTips : ByteArray := prog_11_method_5_code
noncomputable def yX9_sumOfTips : MethodName := ⟨RX9, "sumOfTips", "()I"⟩
noncomputable abbrev cX9_bestMember : ByteArray := prog_11_method_6_code
noncomputable def yX9_bestMember : MethodName := ⟨RX9, "bestMember", "(I)I"⟩
noncomputable abbrev cX9_serveFrom : ByteArray := prog_11_method_7_code
noncomputable def yX9_serveFrom : MethodName := ⟨RX9, "serveFrom", "(II)V"⟩
noncomputable abbrev cX9_serve : ByteArray := prog_11_method_8_code
noncomputable def yX9_serve : MethodName := ⟨RX9, "serve", "(II)V"⟩
noncomputable abbrev cX9_findBest : ByteArray := prog_11_method_9_code
noncomputable def yX9_findBest : MethodName := ⟨RX9, "findBest", "(I)V"⟩
noncomputable abbrev cX9_keepAsBest : ByteArray := prog_11_method_10_code
noncomputable def yX9_keepAsBest : MethodName := ⟨RX9, "keepAsBest", "()V"⟩
noncomputable abbrev cX9_toNextRow : ByteArray := prog_11_method_11_code
noncomputable def yX9_toNextRow : MethodName := ⟨RX9, "toNextRow", "()I"⟩
noncomputable abbrev cX9_swap : ByteArray := prog_11_method_12_code
noncomputable def yX9_swap : MethodName := ⟨RX9, "swap", "(II)V"⟩
def RX10 : String := "CoatsHall"
def TX10 : u_T := fun k => match k with
  | 0 => ("CoatsHall", "theHall", "LCoatsHall$Hall;", false)
  | 1 => ("CoatsHall", "reader", "LCoatsHall$Reader;", true)
  | 2 => ("CoatsHall", "now", "LCoatsHall$Image;", true)
  | 3 => ("CoatsHall", "imageZero", "LCoatsHall$Image;", true)
  | 4 => ("CoatsHall", "imageOne", "LCoatsHall$Image;", true)
  | 5 => ("CoatsHall", "places", "LCoatsHall$Plan;", true)
  | 6 => ("CoatsHall", "service", "LCoatsHall$Rush;", true)
  | 7 => ("CoatsHall", "matching", "LCoatsHall$Matching;", true)
  | 8 => ("CoatsHall", "nightPlay", "I", false)
  | _ => ("CoatsHall", "nightWeather", "I", false)
def tyX10 : Nat → FieldType := fun k => match k with
  | 0 => .object "CoatsHall$Hall"
  | 1 => .object "CoatsHall$Reader"
  | 2 => .object "CoatsHall$Image"
  | 3 => .object "CoatsHall$Image"
  | 4 => .object "CoatsHall$Image"
  | 5 => .object "CoatsHall$Plan"
  | 6 => .object "CoatsHall$Rush"
  | 7 => .object "CoatsHall$Matching"
  | 8 => .int
  | _ => .int
noncomputable abbrev wsX100 : List Cond := u_ws RX10 TX10 10
def nmX10_f (s : String) : Nat := nmk (nmh s) [(590296099693746, 0), (4428026106507, 1), (1902370, 2), (9179330423243841531, 3), (70071224604727215, 4), (4352928609492, 5), (585130380127773, 6), (72659559974093233, 7), (9610363556554760644, 8), (21604971818253855737070648, 9)]
theorem nmX10_i : (List.range 10).all (fun a => Nat.beq (nmX10_f (TX10 a).2.1) a) = true := by decide +kernel
theorem nmX10 : ∀ a, a < 10 → ∀ b, b < 10 → a ≠ b → (TX10 a).2.1 ≠ (TX10 b).2.1 := nm_of (F := fun a => (TX10 a).2.1) (f := nmX10_f) nmX10_i
theorem tyX10_ok : ∀ k, k < 10 → parseFieldDescriptor (TX10 k).2.2.1 = some (tyX10 k) := by decide +kernel
noncomputable abbrev cX10_init : ByteArray := prog_1_method_1_code
noncomputable def yX10_init : MethodName := ⟨RX10, "<init>", "()V"⟩
noncomputable abbrev cX10_feed : ByteArray := prog_1_method_2_code
noncomputable def yX10_feed : MethodName := ⟨RX10, "feed", "(IJ)I"⟩
noncomputable abbrev cX10_hall : ByteArray := prog_1_method_3_code
noncomputable def yX10_hall : MethodName := ⟨RX10, "hall", "()I"⟩
noncomputable abbrev cX10_fault : ByteArray := prog_1_method_4_code
noncomputable def yX10_fault : MethodName := ⟨RX10, "fault", "()I"⟩
noncomputable abbrev cX10_peg : ByteArray := prog_1_method_5_code
noncomputable def yX10_peg : MethodName := ⟨RX10, "peg", "(II)I"⟩
noncomputable abbrev cX10_odds : ByteArray := prog_1_method_6_code
noncomputable def yX10_odds : MethodName := ⟨RX10, "odds", "(II)I"⟩
noncomputable abbrev cX10_count : ByteArray := prog_1_method_7_code
noncomputable def yX10_count : MethodName := ⟨RX10, "count", "(I)I"⟩
noncomputable abbrev cX10_guest : ByteArray := prog_1_method_8_code
noncomputable def yX10_guest : MethodName := ⟨RX10, "guest", "(IIII)I"⟩
noncomputable abbrev cX10_told : ByteArray := prog_1_method_9_code
noncomputable def yX10_told : MethodName := ⟨RX10, "told", "(II)I"⟩
noncomputable abbrev cX10_plan : ByteArray := prog_1_method_10_code
noncomputable def yX10_plan : MethodName := ⟨RX10, "plan", "(ZI)I"⟩
noncomputable abbrev cX10_night : ByteArray := prog_1_method_11_code
noncomputable def yX10_night : MethodName := ⟨RX10, "night", "(IIIII)I"⟩
noncomputable abbrev cX10_learnt : ByteArray := prog_1_method_12_code
noncomputable def yX10_learnt : MethodName := ⟨RX10, "learnt", "(III)I"⟩
noncomputable abbrev cX10_tonight : ByteArray := prog_1_method_13_code
noncomputable def yX10_tonight : MethodName := ⟨RX10, "tonight", "(II)I"⟩
noncomputable abbrev cX10_hang : ByteArray := prog_1_method_14_code
noncomputable def yX10_hang : MethodName := ⟨RX10, "hang", "(IIII)I"⟩
noncomputable abbrev cX10_give : ByteArray := prog_1_method_15_code
noncomputable def yX10_give : MethodName := ⟨RX10, "give", "(III)I"⟩
noncomputable abbrev cX10_lose : ByteArray := prog_1_method_16_code
noncomputable def yX10_lose : MethodName := ⟨RX10, "lose", "(I)I"⟩
noncomputable abbrev cX10_event : ByteArray := prog_1_method_17_code
noncomputable def yX10_event : MethodName := ⟨RX10, "event", "(II)I"⟩
noncomputable abbrev cX10_astray : ByteArray := prog_1_method_18_code
noncomputable def yX10_astray : MethodName := ⟨RX10, "astray", "()I"⟩
noncomputable abbrev cX10_chain : ByteArray := prog_1_method_19_code
noncomputable def yX10_chain : MethodName := ⟨RX10, "chain", "(II)I"⟩
noncomputable abbrev cX10_ring : ByteArray := prog_1_method_20_code
noncomputable def yX10_ring : MethodName := ⟨RX10, "ring", "(I)I"⟩
noncomputable abbrev cX10_exchanges : ByteArray := prog_1_method_21_code
noncomputable def yX10_exchanges : MethodName := ⟨RX10, "exchanges", "()I"⟩
noncomputable abbrev cX10_wrong : ByteArray := prog_1_method_22_code
noncomputable def yX10_wrong : MethodName := ⟨RX10, "wrong", "(II)I"⟩
noncomputable abbrev cX10_rush : ByteArray := prog_1_method_23_code
noncomputable def yX10_rush : MethodName := ⟨RX10, "rush", "(III)I"⟩
noncomputable abbrev cX10_bestRow : ByteArray := prog_1_method_24_code
noncomputable def yX10_bestRow : MethodName := ⟨RX10, "bestRow", "(III)I"⟩
noncomputable abbrev cX10_wanted : ByteArray := prog_1_method_25_code
noncomputable def yX10_wanted : MethodName := ⟨RX10, "wanted", "(II)I"⟩
noncomputable abbrev cX10_claim : ByteArray := prog_1_method_26_code
noncomputable def yX10_claim : MethodName := ⟨RX10, "claim", "(III)I"⟩
noncomputable abbrev cX10_fits : ByteArray := prog_1_method_27_code
noncomputable def yX10_fits : MethodName := ⟨RX10, "fits", "(I)I"⟩
noncomputable abbrev cX10_ways : ByteArray := prog_1_method_28_code
noncomputable def yX10_ways : MethodName := ⟨RX10, "ways", "()J"⟩
noncomputable abbrev cX10_sure : ByteArray := prog_1_method_29_code
noncomputable def yX10_sure : MethodName := ⟨RX10, "sure", "(I)I"⟩
noncomputable abbrev cX10_grant : ByteArray := prog_1_method_30_code
noncomputable def yX10_grant : MethodName := ⟨RX10, "grant", "(I)I"⟩
noncomputable abbrev cX10_apart : ByteArray := prog_1_method_31_code
noncomputable def yX10_apart : MethodName := ⟨RX10, "apart", "(II)I"⟩
noncomputable abbrev cX10_asks : ByteArray := prog_1_method_32_code
noncomputable def yX10_asks : MethodName := ⟨RX10, "asks", "(I)I"⟩
noncomputable abbrev cX10_keep : ByteArray := prog_1_method_33_code
noncomputable def yX10_keep : MethodName := ⟨RX10, "keep", "(I)I"⟩
noncomputable abbrev cX10_goBack : ByteArray := prog_1_method_34_code
noncomputable def yX10_goBack : MethodName := ⟨RX10, "goBack", "(I)I"⟩
noncomputable abbrev cX10_within : ByteArray := prog_1_method_35_code
noncomputable def yX10_within : MethodName := ⟨RX10, "within", "(III)Z"⟩
noncomputable abbrev cX10_isHand : ByteArray := prog_1_method_36_code
noncomputable def yX10_isHand : MethodName := ⟨RX10, "isHand", "(I)Z"⟩
noncomputable abbrev cX10_imageOf : ByteArray := prog_1_method_37_code
noncomputable def yX10_imageOf : MethodName := ⟨RX10, "imageOf", "(I)LCoatsHall$Image;"⟩
noncomputable abbrev cX10_expectedOf : ByteArray := prog_1_method_38_code
noncomputable def yX10_expectedOf : MethodName := ⟨RX10, "expectedOf", "(I)I"⟩
noncomputable abbrev cX10_oddsInPlace : ByteArray := prog_1_method_39_code
noncomputable def yX10_oddsInPlace : MethodName := ⟨RX10, "oddsInPlace", "(II)I"⟩
noncomputable abbrev cX10_mayHang : ByteArray := prog_1_method_40_code
noncomputable def yX10_mayHang : MethodName := ⟨RX10, "mayHang", "(II)Z"⟩
noncomputable abbrev cX10_allHang : ByteArray := prog_1_method_41_code
noncomputable def yX10_allHang : MethodName := ⟨RX10, "allHang", "(I)Z"⟩
def RX11 : String := "CoatsHallModel"
