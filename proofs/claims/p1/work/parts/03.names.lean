/-! names, fields, words (out of the class files' tables, by a program of this repository) -/
def ET0 : u_T := fun k => match k with
  | 0 => ("WhiteElephants$Buyers", "hour", "[I", true)
  | 1 => ("WhiteElephants$Buyers", "purse", "[I", true)
  | 2 => ("WhiteElephants$Buyers", "wishes", "[I", true)
  | 3 => ("WhiteElephants$Buyers", "eye", "[I", true)
  | 4 => ("WhiteElephants$Buyers", "bought", "[I", true)
  | _ => ("WhiteElephants$Buyers", "count", "I", false)
def EY0 : Nat → FieldType := fun k => match k with
  | 0 => .array .int
  | 1 => .array .int
  | 2 => .array .int
  | 3 => .array .int
  | 4 => .array .int
  | _ => .int
def ET1 : u_T := fun k => match k with
  | 0 => ("WhiteElephants$Hall", "things", "LWhiteElephants$Things;", true)
  | 1 => ("WhiteElephants$Hall", "ladies", "LWhiteElephants$Ladies;", true)
  | 2 => ("WhiteElephants$Hall", "laws", "LWhiteElephants$Laws;", true)
  | 3 => ("WhiteElephants$Hall", "buyers", "LWhiteElephants$Buyers;", true)
  | 4 => ("WhiteElephants$Hall", "sightings", "LWhiteElephants$Sightings;", true)
  | 5 => ("WhiteElephants$Hall", "secrets", "LWhiteElephants$Secrets;", true)
  | 6 => ("WhiteElephants$Hall", "tables", "[I", true)
  | 7 => ("WhiteElephants$Hall", "tableCount", "I", false)
  | 8 => ("WhiteElephants$Hall", "half", "I", false)
  | 9 => ("WhiteElephants$Hall", "bag", "I", false)
  | 10 => ("WhiteElephants$Hall", "hour", "I", false)
  | 11 => ("WhiteElephants$Hall", "taken", "I", false)
  | 12 => ("WhiteElephants$Hall", "lostAt", "[I", true)
  | _ => ("WhiteElephants$Hall", "leastLost", "[I", true)
def EY1 : Nat → FieldType := fun k => match k with
  | 0 => .object "WhiteElephants$Things"
  | 1 => .object "WhiteElephants$Ladies"
  | 2 => .object "WhiteElephants$Laws"
  | 3 => .object "WhiteElephants$Buyers"
  | 4 => .object "WhiteElephants$Sightings"
  | 5 => .object "WhiteElephants$Secrets"
  | 6 => .array .int
  | 7 => .int
  | 8 => .int
  | 9 => .int
  | 10 => .int
  | 11 => .int
  | 12 => .array .int
  | _ => .array .int
def ET2 : u_T := fun k => match k with
  | 0 => ("WhiteElephants$Ladies", "knows", "[I", true)
  | 1 => ("WhiteElephants$Ladies", "guess", "[I", true)
  | 2 => ("WhiteElephants$Ladies", "law", "[I", true)
  | _ => ("WhiteElephants$Ladies", "count", "I", false)
def EY2 : Nat → FieldType := fun k => match k with
  | 0 => .array .int
  | 1 => .array .int
  | 2 => .array .int
  | _ => .int
def ET3 : u_T := fun k => match k with
  | 0 => ("WhiteElephants$Laws", "parts", "[I", true)
  | 1 => ("WhiteElephants$Laws", "draft", "[I", true)
  | _ => ("WhiteElephants$Laws", "count", "I", false)
def EY3 : Nat → FieldType := fun k => match k with
  | 0 => .array .int
  | 1 => .array .int
  | _ => .int
def ET4 : u_T := fun k => match k with
  | 0 => ("WhiteElephants$Picks", "sets", "[I", true)
  | _ => ("WhiteElephants$Picks", "gains", "[I", true)
def EY4 : Nat → FieldType := fun k => match k with
  | 0 => .array .int
  | _ => .array .int
def ET5 : u_T := fun k => match k with
  | 0 => ("WhiteElephants$Sale", "half", "I", false)
  | 1 => ("WhiteElephants$Sale", "bag", "I", false)
  | 2 => ("WhiteElephants$Sale", "left", "[I", true)
  | 3 => ("WhiteElephants$Sale", "leftCount", "I", false)
  | 4 => ("WhiteElephants$Sale", "truth", "[I", true)
  | 5 => ("WhiteElephants$Sale", "buyer", "[I", true)
  | 6 => ("WhiteElephants$Sale", "paid", "[I", true)
  | 7 => ("WhiteElephants$Sale", "purse", "[I", true)
  | _ => ("WhiteElephants$Sale", "idle", "[I", true)
def EY5 : Nat → FieldType := fun k => match k with
  | 0 => .int
  | 1 => .int
  | 2 => .array .int
  | 3 => .int
  | 4 => .array .int
  | 5 => .array .int
  | 6 => .array .int
  | 7 => .array .int
  | _ => .array .int
def ET6 : u_T := fun k => match k with
  | 0 => ("WhiteElephants$Secrets", "thing", "[I", true)
  | 1 => ("WhiteElephants$Secrets", "person", "[I", true)
  | 2 => ("WhiteElephants$Secrets", "count", "I", false)
  | 3 => ("WhiteElephants$Secrets", "sees", "[I", true)
  | 4 => ("WhiteElephants$Secrets", "hidden", "[I", true)
  | 5 => ("WhiteElephants$Secrets", "safe", "[I", true)
  | 6 => ("WhiteElephants$Secrets", "lies", "[I", true)
  | 7 => ("WhiteElephants$Secrets", "hiddenCount", "I", false)
  | _ => ("WhiteElephants$Secrets", "space", "[I", true)
def EY6 : Nat → FieldType := fun k => match k with
  | 0 => .array .int
  | 1 => .array .int
  | 2 => .int
  | 3 => .array .int
  | 4 => .array .int
  | 5 => .array .int
  | 6 => .array .int
  | 7 => .int
  | _ => .array .int
def ET7 : u_T := fun k => match k with
  | 0 => ("WhiteElephants$Shelf", "elements", "[J", true)
  | 1 => ("WhiteElephants$Shelf", "held", "I", false)
  | _ => ("WhiteElephants$Shelf", "size", "I", false)
def EY7 : Nat → FieldType := fun k => match k with
  | 0 => .array .long
  | 1 => .int
  | _ => .int
def ET8 : u_T := fun k => match k with
  | 0 => ("WhiteElephants$Sightings", "year", "[I", true)
  | 1 => ("WhiteElephants$Sightings", "chips", "[I", true)
  | 2 => ("WhiteElephants$Sightings", "gave", "[I", true)
  | 3 => ("WhiteElephants$Sightings", "bought", "[I", true)
  | 4 => ("WhiteElephants$Sightings", "count", "I", false)
  | 5 => ("WhiteElephants$Sightings", "before", "[I", true)
  | 6 => ("WhiteElephants$Sightings", "tried", "[I", true)
  | _ => ("WhiteElephants$Sightings", "length", "[I", true)
def EY8 : Nat → FieldType := fun k => match k with
  | 0 => .array .int
  | 1 => .array .int
  | 2 => .array .int
  | 3 => .array .int
  | 4 => .int
  | 5 => .array .int
  | 6 => .array .int
  | _ => .array .int
def ET9 : u_T := fun k => match k with
  | 0 => ("WhiteElephants$Tape", "bytes", "[B", true)
  | 1 => ("WhiteElephants$Tape", "size", "I", false)
  | 2 => ("WhiteElephants$Tape", "begin", "I", false)
  | _ => ("WhiteElephants$Tape", "end", "I", false)
def EY9 : Nat → FieldType := fun k => match k with
  | 0 => .array .byte
  | 1 => .int
  | 2 => .int
  | _ => .int
def ET10 : u_T := fun k => match k with
  | 0 => ("WhiteElephants$Things", "kind", "[I", true)
  | 1 => ("WhiteElephants$Things", "worth", "[I", true)
  | 2 => ("WhiteElephants$Things", "chips", "[I", true)
  | 3 => ("WhiteElephants$Things", "price", "[I", true)
  | 4 => ("WhiteElephants$Things", "buyer", "[I", true)
  | 5 => ("WhiteElephants$Things", "paid", "[I", true)
  | 6 => ("WhiteElephants$Things", "count", "I", false)
  | _ => ("WhiteElephants$Things", "sharedTo", "[I", true)
def EY10 : Nat → FieldType := fun k => match k with
  | 0 => .array .int
  | 1 => .array .int
  | 2 => .array .int
  | 3 => .array .int
  | 4 => .array .int
  | 5 => .array .int
  | 6 => .int
  | _ => .array .int
def ET11 : u_T := fun k => match k with
  | 0 => ("WhiteElephants", "shelves", "[LWhiteElephants$Shelf;", true)
  | 1 => ("WhiteElephants", "refusals", "[I", true)
  | 2 => ("WhiteElephants", "tape", "LWhiteElephants$Tape;", true)
  | 3 => ("WhiteElephants", "now", "LWhiteElephants$Hall;", true)
  | 4 => ("WhiteElephants", "kept", "LWhiteElephants$Hall;", true)
  | 5 => ("WhiteElephants", "sale", "LWhiteElephants$Sale;", true)
  | 6 => ("WhiteElephants", "picks", "LWhiteElephants$Picks;", true)
  | _ => ("WhiteElephants", "imaged", "Z", false)
def EY11 : Nat → FieldType := fun k => match k with
  | 0 => .array (.object "WhiteElephants$Shelf")
  | 1 => .array .int
  | 2 => .object "WhiteElephants$Tape"
  | 3 => .object "WhiteElephants$Hall"
  | 4 => .object "WhiteElephants$Hall"
  | 5 => .object "WhiteElephants$Sale"
  | 6 => .object "WhiteElephants$Picks"
  | _ => .boolean
def ET12 : u_T := fun k => match k with
  | 0 => ("WhiteElephantsModel", "holding", "[I", true)
  | 1 => ("WhiteElephantsModel", "rowLength", "[I", true)
  | 2 => ("WhiteElephantsModel", "rowOf", "[J", true)
  | 3 => ("WhiteElephantsModel", "things", "I", false)
  | 4 => ("WhiteElephantsModel", "thKind", "[I", true)
  | 5 => ("WhiteElephantsModel", "thWorth", "[I", true)
  | 6 => ("WhiteElephantsModel", "thChips", "[I", true)
  | 7 => ("WhiteElephantsModel", "thPrice", "[I", true)
  | 8 => ("WhiteElephantsModel", "thBy", "[I", true)
  | 9 => ("WhiteElephantsModel", "thPaid", "[I", true)
  | 10 => ("WhiteElephantsModel", "ladies", "I", false)
  | 11 => ("WhiteElephantsModel", "laKnows", "[I", true)
  | 12 => ("WhiteElephantsModel", "laGuess", "[I", true)
  | 13 => ("WhiteElephantsModel", "laLaw", "[I", true)
  | 14 => ("WhiteElephantsModel", "laws", "I", false)
  | 15 => ("WhiteElephantsModel", "lawSays", "[I", true)
  | 16 => ("WhiteElephantsModel", "tapeSize", "I", false)
  | 17 => ("WhiteElephantsModel", "tape", "[I", true)
  | 18 => ("WhiteElephantsModel", "buyers", "I", false)
  | 19 => ("WhiteElephantsModel", "buHour", "[I", true)
  | 20 => ("WhiteElephantsModel", "buPurse", "[I", true)
  | 21 => ("WhiteElephantsModel", "buWishes", "[I", true)
  | 22 => ("WhiteElephantsModel", "buEye", "[I", true)
  | 23 => ("WhiteElephantsModel", "buMany", "[I", true)
  | 24 => ("WhiteElephantsModel", "tables", "I", false)
  | 25 => ("WhiteElephantsModel", "taKinds", "[I", true)
  | 26 => ("WhiteElephantsModel", "sightings", "I", false)
  | 27 => ("WhiteElephantsModel", "siYear", "[I", true)
  | 28 => ("WhiteElephantsModel", "siChips", "[I", true)
  | 29 => ("WhiteElephantsModel", "siGave", "[I", true)
  | 30 => ("WhiteElephantsModel", "siBought", "[I", true)
  | 31 => ("WhiteElephantsModel", "secrets", "I", false)
  | 32 => ("WhiteElephantsModel", "seThing", "[I", true)
  | 33 => ("WhiteElephantsModel", "sePerson", "[I", true)
  | 34 => ("WhiteElephantsModel", "looksAt", "[I", true)
  | 35 => ("WhiteElephantsModel", "hours", "[I", true)
  | 36 => ("WhiteElephantsModel", "refusals", "[I", true)
  | 37 => ("WhiteElephantsModel", "isImage", "Z", false)
  | 38 => ("WhiteElephantsModel", "kept", "[I", true)
  | 39 => ("WhiteElephantsModel", "counts", "[I", true)
  | 40 => ("WhiteElephantsModel", "gone", "[Z", true)
  | 41 => ("WhiteElephantsModel", "purse", "[I", true)
  | 42 => ("WhiteElephantsModel", "best", "[I", true)
  | 43 => ("WhiteElephantsModel", "mate", "[I", true)
  | 44 => ("WhiteElephantsModel", "mateOf", "[I", true)
  | 45 => ("WhiteElephantsModel", "from", "[I", true)
  | 46 => ("WhiteElephantsModel", "line", "[I", true)
  | 47 => ("WhiteElephantsModel", "may", "[I", true)
  | 48 => ("WhiteElephantsModel", "room", "[I", true)
  | 49 => ("WhiteElephantsModel", "loses", "[I", true)
  | _ => ("WhiteElephantsModel", "fewest", "[B", false)
def EY12 : Nat → FieldType := fun k => match k with
  | 0 => .array .int
  | 1 => .array .int
  | 2 => .array .long
  | 3 => .int
  | 4 => .array .int
  | 5 => .array .int
  | 6 => .array .int
  | 7 => .array .int
  | 8 => .array .int
  | 9 => .array .int
  | 10 => .int
  | 11 => .array .int
  | 12 => .array .int
  | 13 => .array .int
  | 14 => .int
  | 15 => .array .int
  | 16 => .int
  | 17 => .array .int
  | 18 => .int
  | 19 => .array .int
  | 20 => .array .int
  | 21 => .array .int
  | 22 => .array .int
  | 23 => .array .int
  | 24 => .int
  | 25 => .array .int
  | 26 => .int
  | 27 => .array .int
  | 28 => .array .int
  | 29 => .array .int
  | 30 => .array .int
  | 31 => .int
  | 32 => .array .int
  | 33 => .array .int
  | 34 => .array .int
  | 35 => .array .int
  | 36 => .array .int
  | 37 => .boolean
  | 38 => .array .int
  | 39 => .array .int
  | 40 => .array .boolean
  | 41 => .array .int
  | 42 => .array .int
  | 43 => .array .int
  | 44 => .array .int
  | 45 => .array .int
  | 46 => .array .int
  | 47 => .array .int
  | 48 => .array .int
  | 49 => .array .int
  | _ => .array .byte
abbrev cls : List vw_C := [("WhiteElephants$Buyers", ET0, 6), ("WhiteElephants$Hall", ET1, 14), ("WhiteElephants$Ladies", ET2, 4), ("WhiteElephants$Laws", ET3, 3), ("WhiteElephants$Picks", ET4, 2), ("WhiteElephants$Sale", ET5, 9), ("WhiteElephants$Secrets", ET6, 9), ("WhiteElephants$Shelf", ET7, 3), ("WhiteElephants$Sightings", ET8, 8), ("WhiteElephants$Tape", ET9, 4), ("WhiteElephants$Things", ET10, 8), ("WhiteElephants", ET11, 8), ("WhiteElephantsModel", ET12, 51)]
theorem bw_ps (ws : List Cond) (ps : List Nat) (hp : ws = ps.filterMap (fun i => lw_tbl[i]?)) (hg : ws.all goodWord = true) : ∀ w ∈ ws, w ∈ BW := by
  intro w hw
  have h1 := List.all_eq_true.mp hg w hw
  rw [hp] at hw
  obtain ⟨i, -, hi⟩ := List.mem_filterMap.mp hw
  exact bw_at i hi h1
abbrev mb_J6_bitCount_0f7a4 : ByteArray := prog_15_method_49_code
abbrev my_J6_bitCount_0f7a4 : MethodName := ⟨"java/lang/Integer", "bitCount", "(I)I"⟩
theorem md_J6_bitCount_0f7a4 : MD my_J6_bitCount_0f7a4 1 := ⟨by decide, by decide, by decide +kernel⟩
abbrev mb_J7_fill_53178 : ByteArray := prog_21_method_103_code
abbrev my_J7_fill_53178 : MethodName := ⟨"java/util/Arrays", "fill", "([II)V"⟩
theorem md_J7_fill_53178 : MD my_J7_fill_53178 2 := ⟨by decide, by decide, by decide +kernel⟩
abbrev mb_J7_fill_d0a16 : ByteArray := prog_21_method_101_code
abbrev my_J7_fill_d0a16 : MethodName := ⟨"java/util/Arrays", "fill", "([JJ)V"⟩
theorem md_J7_fill_d0a16 : MD my_J7_fill_d0a16 2 := ⟨by decide, by decide, by decide +kernel⟩
abbrev mb_X0_add : ByteArray := prog_2_method_3_code
abbrev my_X0_add : MethodName := ⟨"WhiteElephants$Buyers", "add", "(IIII)I"⟩
theorem md_X0_add : MD my_X0_add 4 := ⟨by decide, by decide, by decide +kernel⟩
abbrev mb_X0_has : ByteArray := prog_2_method_2_code
abbrev my_X0_has : MethodName := ⟨"WhiteElephants$Buyers", "has", "(I)Z"⟩
theorem md_X0_has : MD my_X0_has 1 := ⟨by decide, by decide, by decide +kernel⟩
abbrev mb_X10_add : ByteArray := prog_12_method_3_code
abbrev my_X10_add : MethodName := ⟨"WhiteElephants$Things", "add", "(III)I"⟩
theorem md_X10_add : MD my_X10_add 3 := ⟨by decide, by decide, by decide +kernel⟩
abbrev mb_X10_countLeft : ByteArray := prog_12_method_13_code
abbrev my_X10_countLeft : MethodName := ⟨"WhiteElephants$Things", "countLeft", "()I"⟩
theorem md_X10_countLeft : MD my_X10_countLeft 0 := ⟨by decide, by decide, by decide +kernel⟩
abbrev mb_X10_has : ByteArray := prog_12_method_2_code
abbrev my_X10_has : MethodName := ⟨"WhiteElephants$Things", "has", "(I)Z"⟩
theorem md_X10_has : MD my_X10_has 1 := ⟨by decide, by decide, by decide +kernel⟩
abbrev mb_X10_worthLeft : ByteArray := prog_12_method_14_code
abbrev my_X10_worthLeft : MethodName := ⟨"WhiteElephants$Things", "worthLeft", "(I)I"⟩
theorem md_X10_worthLeft : MD my_X10_worthLeft 1 := ⟨by decide, by decide, by decide +kernel⟩
abbrev mb_X11_back : ByteArray := prog_1_method_48_code
abbrev my_X11_back : MethodName := ⟨"WhiteElephants", "back", "()I"⟩
theorem md_X11_back : MD my_X11_back 0 := ⟨by decide, by decide, by decide +kernel⟩
abbrev mb_X11_buyer : ByteArray := prog_1_method_22_code
abbrev my_X11_buyer : MethodName := ⟨"WhiteElephants", "buyer", "(IIII)I"⟩
theorem md_X11_buyer : MD my_X11_buyer 4 := ⟨by decide, by decide, by decide +kernel⟩
abbrev mb_X11_buyerOf : ByteArray := prog_1_method_23_code
abbrev my_X11_buyerOf : MethodName := ⟨"WhiteElephants", "buyerOf", "(II)I"⟩
theorem md_X11_buyerOf : MD my_X11_buyerOf 2 := ⟨by decide, by decide, by decide +kernel⟩
abbrev mb_X11_chip : ByteArray := prog_1_method_12_code
abbrev my_X11_chip : MethodName := ⟨"WhiteElephants", "chip", "(II)I"⟩
theorem md_X11_chip : MD my_X11_chip 2 := ⟨by decide, by decide, by decide +kernel⟩
abbrev mb_X11_copy : ByteArray := prog_1_method_4_code
abbrev my_X11_copy : MethodName := ⟨"WhiteElephants", "copy", "(IIIII)I"⟩
theorem md_X11_copy : MD my_X11_copy 5 := ⟨by decide, by decide, by decide +kernel⟩
abbrev mb_X11_costs : ByteArray := prog_1_method_25_code
abbrev my_X11_costs : MethodName := ⟨"WhiteElephants", "costs", "(II)I"⟩
theorem md_X11_costs : MD my_X11_costs 2 := ⟨by decide, by decide, by decide +kernel⟩
abbrev mb_X11_day : ByteArray := prog_1_method_33_code
abbrev my_X11_day : MethodName := ⟨"WhiteElephants", "day", "(I)I"⟩
theorem md_X11_day : MD my_X11_day 1 := ⟨by decide, by decide, by decide +kernel⟩
abbrev mb_X11_element : ByteArray := prog_1_method_5_code
abbrev my_X11_element : MethodName := ⟨"WhiteElephants", "element", "(II)J"⟩
theorem md_X11_element : MD my_X11_element 2 := ⟨by decide, by decide, by decide +kernel⟩
abbrev mb_X11_goes : ByteArray := prog_1_method_14_code
abbrev my_X11_goes : MethodName := ⟨"WhiteElephants", "goes", "(II)I"⟩
theorem md_X11_goes : MD my_X11_goes 2 := ⟨by decide, by decide, by decide +kernel⟩
abbrev mb_X11_hall : ByteArray := prog_1_method_46_code
abbrev my_X11_hall : MethodName := ⟨"WhiteElephants", "hall", "(II)I"⟩
theorem md_X11_hall : MD my_X11_hall 2 := ⟨by decide, by decide, by decide +kernel⟩
abbrev mb_X11_holds : ByteArray := prog_1_method_6_code
abbrev my_X11_holds : MethodName := ⟨"WhiteElephants", "holds", "(I)I"⟩
theorem md_X11_holds : MD my_X11_holds 1 := ⟨by decide, by decide, by decide +kernel⟩
abbrev mb_X11_isHour : ByteArray := prog_1_method_54_code
abbrev my_X11_isHour : MethodName := ⟨"WhiteElephants", "isHour", "(I)Z"⟩
theorem md_X11_isHour : MD my_X11_isHour 1 := ⟨by decide, by decide, by decide +kernel⟩
abbrev mb_X11_isKind : ByteArray := prog_1_method_52_code
abbrev my_X11_isKind : MethodName := ⟨"WhiteElephants", "isKind", "(I)Z"⟩
theorem md_X11_isKind : MD my_X11_isKind 1 := ⟨by decide, by decide, by decide +kernel⟩
abbrev mb_X11_isKinds : ByteArray := prog_1_method_53_code
abbrev my_X11_isKinds : MethodName := ⟨"WhiteElephants", "isKinds", "(I)Z"⟩
theorem md_X11_isKinds : MD my_X11_isKinds 1 := ⟨by decide, by decide, by decide +kernel⟩
abbrev mb_X11_isPerson : ByteArray := prog_1_method_55_code
abbrev my_X11_isPerson : MethodName := ⟨"WhiteElephants", "isPerson", "(I)Z"⟩
theorem md_X11_isPerson : MD my_X11_isPerson 1 := ⟨by decide, by decide, by decide +kernel⟩
abbrev mb_X11_isPersonOrNone : ByteArray := prog_1_method_56_code
abbrev my_X11_isPersonOrNone : MethodName := ⟨"WhiteElephants", "isPersonOrNone", "(I)Z"⟩
theorem md_X11_isPersonOrNone : MD my_X11_isPersonOrNone 1 := ⟨by decide, by decide, by decide +kernel⟩
abbrev mb_X11_isShelf : ByteArray := prog_1_method_51_code
abbrev my_X11_isShelf : MethodName := ⟨"WhiteElephants", "isShelf", "(I)Z"⟩
theorem md_X11_isShelf : MD my_X11_isShelf 1 := ⟨by decide, by decide, by decide +kernel⟩
abbrev mb_X11_judge : ByteArray := prog_1_method_29_code
abbrev my_X11_judge : MethodName := ⟨"WhiteElephants", "judge", "(I)I"⟩
theorem md_X11_judge : MD my_X11_judge 1 := ⟨by decide, by decide, by decide +kernel⟩
abbrev mb_X11_lady : ByteArray := prog_1_method_13_code
abbrev my_X11_lady : MethodName := ⟨"WhiteElephants", "lady", "(II)I"⟩
theorem md_X11_lady : MD my_X11_lady 2 := ⟨by decide, by decide, by decide +kernel⟩
abbrev mb_X11_laid : ByteArray := prog_1_method_44_code
abbrev my_X11_laid : MethodName := ⟨"WhiteElephants", "laid", "(II)I"⟩
theorem md_X11_laid : MD my_X11_laid 2 := ⟨by decide, by decide, by decide +kernel⟩
abbrev mb_X11_lawOf : ByteArray := prog_1_method_18_code
abbrev my_X11_lawOf : MethodName := ⟨"WhiteElephants", "lawOf", "(II)I"⟩
theorem md_X11_lawOf : MD my_X11_lawOf 2 := ⟨by decide, by decide, by decide +kernel⟩
abbrev mb_X11_longest : ByteArray := prog_1_method_41_code
abbrev my_X11_longest : MethodName := ⟨"WhiteElephants", "longest", "()I"⟩
theorem md_X11_longest : MD my_X11_longest 0 := ⟨by decide, by decide, by decide +kernel⟩
abbrev mb_X11_looks : ByteArray := prog_1_method_43_code
abbrev my_X11_looks : MethodName := ⟨"WhiteElephants", "looks", "(II)I"⟩
theorem md_X11_looks : MD my_X11_looks 2 := ⟨by decide, by decide, by decide +kernel⟩
abbrev mb_X11_loses : ByteArray := prog_1_method_31_code
abbrev my_X11_loses : MethodName := ⟨"WhiteElephants", "loses", "(II)I"⟩
theorem md_X11_loses : MD my_X11_loses 2 := ⟨by decide, by decide, by decide +kernel⟩
abbrev mb_X11_mark : ByteArray := prog_1_method_21_code
abbrev my_X11_mark : MethodName := ⟨"WhiteElephants", "mark", "(II)I"⟩
theorem md_X11_mark : MD my_X11_mark 2 := ⟨by decide, by decide, by decide +kernel⟩
abbrev mb_X11_morning : ByteArray := prog_1_method_34_code
abbrev my_X11_morning : MethodName := ⟨"WhiteElephants", "morning", "()I"⟩
theorem md_X11_morning : MD my_X11_morning 0 := ⟨by decide, by decide, by decide +kernel⟩
abbrev mb_X11_price : ByteArray := prog_1_method_20_code
abbrev my_X11_price : MethodName := ⟨"WhiteElephants", "price", "(II)I"⟩
theorem md_X11_price : MD my_X11_price 2 := ⟨by decide, by decide, by decide +kernel⟩
abbrev mb_X11_refusalOfRow : ByteArray := prog_1_method_59_code
abbrev my_X11_refusalOfRow : MethodName := ⟨"WhiteElephants", "refusalOfRow", "(I)I"⟩
theorem md_X11_refusalOfRow : MD my_X11_refusalOfRow 1 := ⟨by decide, by decide, by decide +kernel⟩
abbrev mb_X11_refuse : ByteArray := prog_1_method_58_code
abbrev my_X11_refuse : MethodName := ⟨"WhiteElephants", "refuse", "(I)I"⟩
theorem md_X11_refuse : MD my_X11_refuse 1 := ⟨by decide, by decide, by decide +kernel⟩
abbrev mb_X11_rest : ByteArray := prog_1_method_30_code
abbrev my_X11_rest : MethodName := ⟨"WhiteElephants", "rest", "(I)I"⟩
theorem md_X11_rest : MD my_X11_rest 1 := ⟨by decide, by decide, by decide +kernel⟩
abbrev mb_X11_row : ByteArray := prog_1_method_2_code
abbrev my_X11_row : MethodName := ⟨"WhiteElephants", "row", "(III)I"⟩
theorem md_X11_row : MD my_X11_row 3 := ⟨by decide, by decide, by decide +kernel⟩
abbrev mb_X11_same : ByteArray := prog_1_method_39_code
abbrev my_X11_same : MethodName := ⟨"WhiteElephants", "same", "(II)I"⟩
theorem md_X11_same : MD my_X11_same 2 := ⟨by decide, by decide, by decide +kernel⟩
abbrev mb_X11_says : ByteArray := prog_1_method_8_code
abbrev my_X11_says : MethodName := ⟨"WhiteElephants", "says", "(II)I"⟩
theorem md_X11_says : MD my_X11_says 2 := ⟨by decide, by decide, by decide +kernel⟩
abbrev mb_X11_secret : ByteArray := prog_1_method_42_code
abbrev my_X11_secret : MethodName := ⟨"WhiteElephants", "secret", "(II)I"⟩
theorem md_X11_secret : MD my_X11_secret 2 := ⟨by decide, by decide, by decide +kernel⟩
abbrev mb_X11_set : ByteArray := prog_1_method_3_code
abbrev my_X11_set : MethodName := ⟨"WhiteElephants", "set", "(IIJ)I"⟩
theorem md_X11_set : MD my_X11_set 3 := ⟨by decide, by decide, by decide +kernel⟩
abbrev mb_X11_shelvesInUse : ByteArray := prog_1_method_60_code
abbrev my_X11_shelvesInUse : MethodName := ⟨"WhiteElephants", "shelvesInUse", "()I"⟩
theorem md_X11_shelvesInUse : MD my_X11_shelvesInUse 0 := ⟨by decide, by decide, by decide +kernel⟩
abbrev mb_X11_shortBy : ByteArray := prog_1_method_45_code
abbrev my_X11_shortBy : MethodName := ⟨"WhiteElephants", "shortBy", "(I)I"⟩
theorem md_X11_shortBy : MD my_X11_shortBy 1 := ⟨by decide, by decide, by decide +kernel⟩
abbrev mb_X11_show : ByteArray := prog_1_method_7_code
abbrev my_X11_show : MethodName := ⟨"WhiteElephants", "show", "(II)I"⟩
theorem md_X11_show : MD my_X11_show 2 := ⟨by decide, by decide, by decide +kernel⟩
abbrev mb_X11_shown : ByteArray := prog_1_method_35_code
abbrev my_X11_shown : MethodName := ⟨"WhiteElephants", "shown", "(I)I"⟩
theorem md_X11_shown : MD my_X11_shown 1 := ⟨by decide, by decide, by decide +kernel⟩
abbrev mb_X11_sight : ByteArray := prog_1_method_38_code
abbrev my_X11_sight : MethodName := ⟨"WhiteElephants", "sight", "(IIII)I"⟩
theorem md_X11_sight : MD my_X11_sight 4 := ⟨by decide, by decide, by decide +kernel⟩
abbrev mb_X11_status : ByteArray := prog_1_method_49_code
abbrev my_X11_status : MethodName := ⟨"WhiteElephants", "status", "(I)I"⟩
theorem md_X11_status : MD my_X11_status 1 := ⟨by decide, by decide, by decide +kernel⟩
abbrev mb_X11_table : ByteArray := prog_1_method_36_code
abbrev my_X11_table : MethodName := ⟨"WhiteElephants", "table", "(I)I"⟩
theorem md_X11_table : MD my_X11_table 1 := ⟨by decide, by decide, by decide +kernel⟩
abbrev mb_X11_takes : ByteArray := prog_1_method_26_code
abbrev my_X11_takes : MethodName := ⟨"WhiteElephants", "takes", "(II)I"⟩
theorem md_X11_takes : MD my_X11_takes 2 := ⟨by decide, by decide, by decide +kernel⟩
abbrev mb_X11_takings : ByteArray := prog_1_method_27_code
abbrev my_X11_takings : MethodName := ⟨"WhiteElephants", "takings", "(II)I"⟩
theorem md_X11_takings : MD my_X11_takings 2 := ⟨by decide, by decide, by decide +kernel⟩
abbrev mb_X11_thing : ByteArray := prog_1_method_9_code
abbrev my_X11_thing : MethodName := ⟨"WhiteElephants", "thing", "(III)I"⟩
theorem md_X11_thing : MD my_X11_thing 3 := ⟨by decide, by decide, by decide +kernel⟩
abbrev mb_X11_thingOf : ByteArray := prog_1_method_11_code
abbrev my_X11_thingOf : MethodName := ⟨"WhiteElephants", "thingOf", "(II)I"⟩
theorem md_X11_thingOf : MD my_X11_thingOf 2 := ⟨by decide, by decide, by decide +kernel⟩
abbrev mb_X11_things : ByteArray := prog_1_method_10_code
abbrev my_X11_things : MethodName := ⟨"WhiteElephants", "things", "(III)I"⟩
theorem md_X11_things : MD my_X11_things 3 := ⟨by decide, by decide, by decide +kernel⟩
abbrev mb_X11_thinks : ByteArray := prog_1_method_19_code
abbrev my_X11_thinks : MethodName := ⟨"WhiteElephants", "thinks", "(IIZ)I"⟩
theorem md_X11_thinks : MD my_X11_thinks 3 := ⟨by decide, by decide, by decide +kernel⟩
abbrev mb_X11_turn : ByteArray := prog_1_method_24_code
abbrev my_X11_turn : MethodName := ⟨"WhiteElephants", "turn", "(II)I"⟩
theorem md_X11_turn : MD my_X11_turn 2 := ⟨by decide, by decide, by decide +kernel⟩
abbrev mb_X11_vases : ByteArray := prog_1_method_40_code
abbrev my_X11_vases : MethodName := ⟨"WhiteElephants", "vases", "()I"⟩
theorem md_X11_vases : MD my_X11_vases 0 := ⟨by decide, by decide, by decide +kernel⟩
abbrev mb_X11_who : ByteArray := prog_1_method_37_code
abbrev my_X11_who : MethodName := ⟨"WhiteElephants", "who", "(I)I"⟩
theorem md_X11_who : MD my_X11_who 1 := ⟨by decide, by decide, by decide +kernel⟩
abbrev mb_X11_wipe : ByteArray := prog_1_method_16_code
abbrev my_X11_wipe : MethodName := ⟨"WhiteElephants", "wipe", "()I"⟩
theorem md_X11_wipe : MD my_X11_wipe 0 := ⟨by decide, by decide, by decide +kernel⟩
abbrev mb_X11_within : ByteArray := prog_1_method_50_code
abbrev my_X11_within : MethodName := ⟨"WhiteElephants", "within", "(III)Z"⟩
theorem md_X11_within : MD my_X11_within 3 := ⟨by decide, by decide, by decide +kernel⟩
abbrev mb_X1_bestLady : ByteArray := prog_3_method_8_code
abbrev my_X1_bestLady : MethodName := ⟨"WhiteElephants$Hall", "bestLady", "(II)I"⟩
theorem md_X1_bestLady : MD my_X1_bestLady 2 := ⟨by decide, by decide, by decide +kernel⟩
abbrev mb_X1_planTables : ByteArray := prog_3_method_7_code
abbrev my_X1_planTables : MethodName := ⟨"WhiteElephants$Hall", "planTables", "()V"⟩
theorem md_X1_planTables : MD my_X1_planTables 0 := ⟨by decide, by decide, by decide +kernel⟩
abbrev mb_X2_add : ByteArray := prog_4_method_3_code
abbrev my_X2_add : MethodName := ⟨"WhiteElephants$Ladies", "add", "(II)I"⟩
theorem md_X2_add : MD my_X2_add 2 := ⟨by decide, by decide, by decide +kernel⟩
abbrev mb_X2_has : ByteArray := prog_4_method_2_code
abbrev my_X2_has : MethodName := ⟨"WhiteElephants$Ladies", "has", "(I)Z"⟩
theorem md_X2_has : MD my_X2_has 1 := ⟨by decide, by decide, by decide +kernel⟩
abbrev mb_X3_has : ByteArray := prog_5_method_3_code
abbrev my_X3_has : MethodName := ⟨"WhiteElephants$Laws", "has", "(I)Z"⟩
theorem md_X3_has : MD my_X3_has 1 := ⟨by decide, by decide, by decide +kernel⟩
abbrev mb_X4_bargains : ByteArray := prog_6_method_2_code
abbrev my_X4_bargains : MethodName := ⟨"WhiteElephants$Picks", "bargains", "(LWhiteElephants$Things;I)I"⟩
theorem md_X4_bargains : MD my_X4_bargains 2 := ⟨by decide, by decide, by decide +kernel⟩
abbrev mb_X4_fewestPaid : ByteArray := prog_6_method_4_code
abbrev my_X4_fewestPaid : MethodName := ⟨"WhiteElephants$Picks", "fewestPaid", "(LWhiteElephants$Things;I)I"⟩
theorem md_X4_fewestPaid : MD my_X4_fewestPaid 2 := ⟨by decide, by decide, by decide +kernel⟩
abbrev mb_X5_open : ByteArray := prog_7_method_4_code
abbrev my_X5_open : MethodName := ⟨"WhiteElephants$Sale", "open", "(LWhiteElephants$Hall;II)V"⟩
theorem md_X5_open : MD my_X5_open 3 := ⟨by decide, by decide, by decide +kernel⟩
abbrev mb_X5_playHour : ByteArray := prog_7_method_6_code
abbrev my_X5_playHour : MethodName := ⟨"WhiteElephants$Sale", "playHour", "(LWhiteElephants$Hall;I)I"⟩
theorem md_X5_playHour : MD my_X5_playHour 2 := ⟨by decide, by decide, by decide +kernel⟩
abbrev mb_X5_settle : ByteArray := prog_7_method_11_code
abbrev my_X5_settle : MethodName := ⟨"WhiteElephants$Sale", "settle", "(LWhiteElephants$Hall;)V"⟩
theorem md_X5_settle : MD my_X5_settle 1 := ⟨by decide, by decide, by decide +kernel⟩
abbrev mb_X5_stage : ByteArray := prog_7_method_2_code
abbrev my_X5_stage : MethodName := ⟨"WhiteElephants$Sale", "stage", "(III)I"⟩
theorem md_X5_stage : MD my_X5_stage 3 := ⟨by decide, by decide, by decide +kernel⟩
abbrev mb_X5_wholeDay : ByteArray := prog_7_method_9_code
abbrev my_X5_wholeDay : MethodName := ⟨"WhiteElephants$Sale", "wholeDay", "(LWhiteElephants$Hall;II)I"⟩
theorem md_X5_wholeDay : MD my_X5_wholeDay 3 := ⟨by decide, by decide, by decide +kernel⟩
abbrev mb_X7_at : ByteArray := prog_9_method_7_code
abbrev my_X7_at : MethodName := ⟨"WhiteElephants$Shelf", "at", "(I)J"⟩
theorem md_X7_at : MD my_X7_at 1 := ⟨by decide, by decide, by decide +kernel⟩
abbrev mb_X7_hasRow : ByteArray := prog_9_method_3_code
abbrev my_X7_hasRow : MethodName := ⟨"WhiteElephants$Shelf", "hasRow", "()Z"⟩
theorem md_X7_hasRow : MD my_X7_hasRow 0 := ⟨by decide, by decide, by decide +kernel⟩
abbrev mb_X7_hasThing : ByteArray := prog_9_method_4_code
abbrev my_X7_hasThing : MethodName := ⟨"WhiteElephants$Shelf", "hasThing", "()Z"⟩
theorem md_X7_hasThing : MD my_X7_hasThing 0 := ⟨by decide, by decide, by decide +kernel⟩
abbrev mb_X7_isEmpty : ByteArray := prog_9_method_2_code
abbrev my_X7_isEmpty : MethodName := ⟨"WhiteElephants$Shelf", "isEmpty", "()Z"⟩
theorem md_X7_isEmpty : MD my_X7_isEmpty 0 := ⟨by decide, by decide, by decide +kernel⟩
abbrev mb_X7_takeRow : ByteArray := prog_9_method_6_code
abbrev my_X7_takeRow : MethodName := ⟨"WhiteElephants$Shelf", "takeRow", "(II)V"⟩
theorem md_X7_takeRow : MD my_X7_takeRow 2 := ⟨by decide, by decide, by decide +kernel⟩
abbrev mb_X8_add : ByteArray := prog_10_method_3_code
abbrev my_X8_add : MethodName := ⟨"WhiteElephants$Sightings", "add", "(IIII)I"⟩
theorem md_X8_add : MD my_X8_add 4 := ⟨by decide, by decide, by decide +kernel⟩
abbrev mb_X8_fewestVases : ByteArray := prog_10_method_5_code
abbrev my_X8_fewestVases : MethodName := ⟨"WhiteElephants$Sightings", "fewestVases", "()I"⟩
theorem md_X8_fewestVases : MD my_X8_fewestVases 0 := ⟨by decide, by decide, by decide +kernel⟩
abbrev mb_X8_has : ByteArray := prog_10_method_2_code
abbrev my_X8_has : MethodName := ⟨"WhiteElephants$Sightings", "has", "(I)Z"⟩
theorem md_X8_has : MD my_X8_has 1 := ⟨by decide, by decide, by decide +kernel⟩
abbrev mb_X8_longestRow : ByteArray := prog_10_method_7_code
abbrev my_X8_longestRow : MethodName := ⟨"WhiteElephants$Sightings", "longestRow", "()I"⟩
theorem md_X8_longestRow : MD my_X8_longestRow 0 := ⟨by decide, by decide, by decide +kernel⟩
theorem kk_1 : Cond.initialized "WhiteElephants" ∈ BW := bw_at 61 (by decide +kernel) rfl
theorem kk_3 : Cond.initialized "WhiteElephants$Hall" ∈ BW := bw_at 63 (by decide +kernel) rfl
theorem kk_4 : Cond.initialized "WhiteElephants$Things" ∈ BW := bw_at 64 (by decide +kernel) rfl
theorem kk_5 : Cond.initialized "WhiteElephants$Ladies" ∈ BW := bw_at 65 (by decide +kernel) rfl
theorem kk_6 : Cond.initialized "WhiteElephants$Laws" ∈ BW := bw_at 66 (by decide +kernel) rfl
theorem kk_7 : Cond.initialized "WhiteElephants$Buyers" ∈ BW := bw_at 67 (by decide +kernel) rfl
theorem kk_8 : Cond.initialized "WhiteElephants$Sightings" ∈ BW := bw_at 68 (by decide +kernel) rfl
theorem kk_10 : Cond.initialized "WhiteElephants$Sale" ∈ BW := bw_at 70 (by decide +kernel) rfl
theorem kk_11 : Cond.initialized "WhiteElephants$Picks" ∈ BW := bw_at 71 (by decide +kernel) rfl
theorem kk_12 : Cond.initialized "WhiteElephants$Shelf" ∈ BW := bw_at 72 (by decide +kernel) rfl
theorem kk_14 : Cond.initialized "java/util/Arrays" ∈ BW := bw_at 74 (by decide +kernel) rfl
theorem kk_16 : Cond.initialized "java/lang/Integer" ∈ BW := bw_at 76 (by decide +kernel) rfl
theorem kk_40 : Cond.fieldLink "WhiteElephants" 188 "WhiteElephants$Tape" "size" "I" ∈ BW := bw_at 100 (by decide +kernel) rfl
theorem kk_66 : Cond.fieldLink "WhiteElephants$Things" 9 "WhiteElephants$Things" "kind" "[I" ∈ BW := bw_at 126 (by decide +kernel) rfl
theorem kk_70 : Cond.fieldLink "WhiteElephants$Things" 15 "WhiteElephants$Things" "worth" "[I" ∈ BW := bw_at 130 (by decide +kernel) rfl
theorem kk_72 : Cond.fieldLink "WhiteElephants$Things" 18 "WhiteElephants$Things" "chips" "[I" ∈ BW := bw_at 132 (by decide +kernel) rfl
theorem kk_74 : Cond.fieldLink "WhiteElephants$Things" 21 "WhiteElephants$Things" "price" "[I" ∈ BW := bw_at 134 (by decide +kernel) rfl
theorem kk_79 : Cond.fieldLink "WhiteElephants$Things" 24 "WhiteElephants$Things" "buyer" "[I" ∈ BW := bw_at 139 (by decide +kernel) rfl
theorem kk_82 : Cond.fieldLink "WhiteElephants$Things" 27 "WhiteElephants$Things" "paid" "[I" ∈ BW := bw_at 142 (by decide +kernel) rfl
theorem kk_86 : Cond.fieldLink "WhiteElephants$Things" 30 "WhiteElephants$Things" "count" "I" ∈ BW := bw_at 146 (by decide +kernel) rfl
theorem kk_87 : Cond.fieldLink "WhiteElephants$Picks" 18 "WhiteElephants$Things" "count" "I" ∈ BW := bw_at 147 (by decide +kernel) rfl
theorem kk_88 : Cond.fieldLink "WhiteElephants$Sale" 46 "WhiteElephants$Things" "count" "I" ∈ BW := bw_at 148 (by decide +kernel) rfl
theorem kk_90 : Cond.fieldLink "WhiteElephants" 132 "WhiteElephants$Things" "count" "I" ∈ BW := bw_at 150 (by decide +kernel) rfl
theorem kk_116 : Cond.fieldLink "WhiteElephants$Ladies" 9 "WhiteElephants$Ladies" "knows" "[I" ∈ BW := bw_at 176 (by decide +kernel) rfl
theorem kk_118 : Cond.fieldLink "WhiteElephants$Ladies" 15 "WhiteElephants$Ladies" "guess" "[I" ∈ BW := bw_at 178 (by decide +kernel) rfl
theorem kk_120 : Cond.fieldLink "WhiteElephants$Ladies" 18 "WhiteElephants$Ladies" "law" "[I" ∈ BW := bw_at 180 (by decide +kernel) rfl
theorem kk_123 : Cond.fieldLink "WhiteElephants$Ladies" 21 "WhiteElephants$Ladies" "count" "I" ∈ BW := bw_at 183 (by decide +kernel) rfl
theorem kk_124 : Cond.fieldLink "WhiteElephants$Hall" 130 "WhiteElephants$Ladies" "count" "I" ∈ BW := bw_at 184 (by decide +kernel) rfl
theorem kk_125 : Cond.fieldLink "WhiteElephants" 172 "WhiteElephants$Ladies" "count" "I" ∈ BW := bw_at 185 (by decide +kernel) rfl
theorem kk_144 : Cond.fieldLink "WhiteElephants$Laws" 18 "WhiteElephants$Laws" "count" "I" ∈ BW := bw_at 204 (by decide +kernel) rfl
theorem kk_145 : Cond.fieldLink "WhiteElephants" 192 "WhiteElephants$Laws" "count" "I" ∈ BW := bw_at 205 (by decide +kernel) rfl
theorem kk_159 : Cond.fieldLink "WhiteElephants$Buyers" 9 "WhiteElephants$Buyers" "hour" "[I" ∈ BW := bw_at 219 (by decide +kernel) rfl
theorem kk_162 : Cond.fieldLink "WhiteElephants$Buyers" 15 "WhiteElephants$Buyers" "purse" "[I" ∈ BW := bw_at 222 (by decide +kernel) rfl
theorem kk_165 : Cond.fieldLink "WhiteElephants$Buyers" 18 "WhiteElephants$Buyers" "wishes" "[I" ∈ BW := bw_at 225 (by decide +kernel) rfl
theorem kk_168 : Cond.fieldLink "WhiteElephants$Buyers" 21 "WhiteElephants$Buyers" "eye" "[I" ∈ BW := bw_at 228 (by decide +kernel) rfl
theorem kk_171 : Cond.fieldLink "WhiteElephants$Buyers" 24 "WhiteElephants$Buyers" "bought" "[I" ∈ BW := bw_at 231 (by decide +kernel) rfl
theorem kk_174 : Cond.fieldLink "WhiteElephants$Buyers" 27 "WhiteElephants$Buyers" "count" "I" ∈ BW := bw_at 234 (by decide +kernel) rfl
theorem kk_175 : Cond.fieldLink "WhiteElephants$Sale" 63 "WhiteElephants$Buyers" "count" "I" ∈ BW := bw_at 235 (by decide +kernel) rfl
theorem kk_176 : Cond.fieldLink "WhiteElephants" 223 "WhiteElephants$Buyers" "count" "I" ∈ BW := bw_at 236 (by decide +kernel) rfl
theorem kk_196 : Cond.fieldLink "WhiteElephants$Sightings" 9 "WhiteElephants$Sightings" "year" "[I" ∈ BW := bw_at 256 (by decide +kernel) rfl
theorem kk_197 : Cond.fieldLink "WhiteElephants$Sightings" 15 "WhiteElephants$Sightings" "chips" "[I" ∈ BW := bw_at 257 (by decide +kernel) rfl
theorem kk_198 : Cond.fieldLink "WhiteElephants$Sightings" 18 "WhiteElephants$Sightings" "gave" "[I" ∈ BW := bw_at 258 (by decide +kernel) rfl
theorem kk_199 : Cond.fieldLink "WhiteElephants$Sightings" 21 "WhiteElephants$Sightings" "bought" "[I" ∈ BW := bw_at 259 (by decide +kernel) rfl
theorem kk_200 : Cond.fieldLink "WhiteElephants$Sightings" 24 "WhiteElephants$Sightings" "count" "I" ∈ BW := bw_at 260 (by decide +kernel) rfl
theorem kk_201 : Cond.fieldLink "WhiteElephants" 325 "WhiteElephants$Sightings" "count" "I" ∈ BW := bw_at 261 (by decide +kernel) rfl
theorem kk_202 : Cond.fieldLink "WhiteElephants$Sightings" 28 "WhiteElephants$Sightings" "before" "[I" ∈ BW := bw_at 262 (by decide +kernel) rfl
theorem kk_231 : Cond.fieldLink "WhiteElephants" 346 "WhiteElephants$Secrets" "count" "I" ∈ BW := bw_at 291 (by decide +kernel) rfl
theorem kk_233 : Cond.fieldLink "WhiteElephants" 350 "WhiteElephants$Secrets" "sees" "[I" ∈ BW := bw_at 293 (by decide +kernel) rfl
theorem kk_259 : Cond.fieldLink "WhiteElephants$Sale" 40 "WhiteElephants$Hall" "things" "LWhiteElephants$Things;" ∈ BW := bw_at 319 (by decide +kernel) rfl
theorem kk_260 : Cond.fieldLink "WhiteElephants" 113 "WhiteElephants$Hall" "things" "LWhiteElephants$Things;" ∈ BW := bw_at 320 (by decide +kernel) rfl
theorem kk_261 : Cond.fieldLink "WhiteElephants$Hall" 21 "WhiteElephants$Hall" "ladies" "LWhiteElephants$Ladies;" ∈ BW := bw_at 321 (by decide +kernel) rfl
theorem kk_262 : Cond.fieldLink "WhiteElephants" 168 "WhiteElephants$Hall" "ladies" "LWhiteElephants$Ladies;" ∈ BW := bw_at 322 (by decide +kernel) rfl
theorem kk_264 : Cond.fieldLink "WhiteElephants" 178 "WhiteElephants$Hall" "laws" "LWhiteElephants$Laws;" ∈ BW := bw_at 324 (by decide +kernel) rfl
theorem kk_266 : Cond.fieldLink "WhiteElephants$Sale" 59 "WhiteElephants$Hall" "buyers" "LWhiteElephants$Buyers;" ∈ BW := bw_at 326 (by decide +kernel) rfl
theorem kk_267 : Cond.fieldLink "WhiteElephants" 219 "WhiteElephants$Hall" "buyers" "LWhiteElephants$Buyers;" ∈ BW := bw_at 327 (by decide +kernel) rfl
theorem kk_269 : Cond.fieldLink "WhiteElephants" 321 "WhiteElephants$Hall" "sightings" "LWhiteElephants$Sightings;" ∈ BW := bw_at 329 (by decide +kernel) rfl
theorem kk_271 : Cond.fieldLink "WhiteElephants" 342 "WhiteElephants$Hall" "secrets" "LWhiteElephants$Secrets;" ∈ BW := bw_at 331 (by decide +kernel) rfl
theorem kk_273 : Cond.fieldLink "WhiteElephants" 306 "WhiteElephants$Hall" "tables" "[I" ∈ BW := bw_at 333 (by decide +kernel) rfl
theorem kk_274 : Cond.fieldLink "WhiteElephants$Hall" 57 "WhiteElephants$Hall" "tableCount" "I" ∈ BW := bw_at 334 (by decide +kernel) rfl
theorem kk_275 : Cond.fieldLink "WhiteElephants" 303 "WhiteElephants$Hall" "tableCount" "I" ∈ BW := bw_at 335 (by decide +kernel) rfl
theorem kk_277 : Cond.fieldLink "WhiteElephants" 245 "WhiteElephants$Hall" "half" "I" ∈ BW := bw_at 337 (by decide +kernel) rfl
theorem kk_279 : Cond.fieldLink "WhiteElephants" 248 "WhiteElephants$Hall" "bag" "I" ∈ BW := bw_at 339 (by decide +kernel) rfl
theorem kk_281 : Cond.fieldLink "WhiteElephants" 282 "WhiteElephants$Hall" "hour" "I" ∈ BW := bw_at 341 (by decide +kernel) rfl
theorem kk_283 : Cond.fieldLink "WhiteElephants" 293 "WhiteElephants$Hall" "taken" "I" ∈ BW := bw_at 343 (by decide +kernel) rfl
theorem kk_285 : Cond.fieldLink "WhiteElephants$Hall" 76 "WhiteElephants$Hall" "leastLost" "[I" ∈ BW := bw_at 345 (by decide +kernel) rfl
theorem kk_286 : Cond.fieldLink "WhiteElephants" 312 "WhiteElephants$Hall" "leastLost" "[I" ∈ BW := bw_at 346 (by decide +kernel) rfl
theorem kk_322 : Cond.fieldLink "WhiteElephants$Sale" 9 "WhiteElephants$Sale" "half" "I" ∈ BW := bw_at 382 (by decide +kernel) rfl
theorem kk_323 : Cond.fieldLink "WhiteElephants$Sale" 15 "WhiteElephants$Sale" "bag" "I" ∈ BW := bw_at 383 (by decide +kernel) rfl
theorem kk_325 : Cond.fieldLink "WhiteElephants$Sale" 22 "WhiteElephants$Sale" "leftCount" "I" ∈ BW := bw_at 385 (by decide +kernel) rfl
theorem kk_356 : Cond.fieldLink "WhiteElephants$Picks" 9 "WhiteElephants$Picks" "sets" "[I" ∈ BW := bw_at 416 (by decide +kernel) rfl
theorem kk_357 : Cond.fieldLink "WhiteElephants$Picks" 15 "WhiteElephants$Picks" "gains" "[I" ∈ BW := bw_at 417 (by decide +kernel) rfl
theorem kk_368 : Cond.fieldLink "WhiteElephants$Shelf" 9 "WhiteElephants$Shelf" "elements" "[J" ∈ BW := bw_at 428 (by decide +kernel) rfl
theorem kk_370 : Cond.fieldLink "WhiteElephants$Shelf" 15 "WhiteElephants$Shelf" "held" "I" ∈ BW := bw_at 430 (by decide +kernel) rfl
theorem kk_371 : Cond.fieldLink "WhiteElephants" 89 "WhiteElephants$Shelf" "held" "I" ∈ BW := bw_at 431 (by decide +kernel) rfl
theorem kk_372 : Cond.fieldLink "WhiteElephants$Shelf" 19 "WhiteElephants$Shelf" "size" "I" ∈ BW := bw_at 432 (by decide +kernel) rfl
theorem kk_382 : Cond.fieldLink "WhiteElephants" 11 "WhiteElephants" "shelves" "[LWhiteElephants$Shelf;" ∈ BW := bw_at 442 (by decide +kernel) rfl
theorem kk_383 : Cond.fieldLink "WhiteElephants" 15 "WhiteElephants" "refusals" "[I" ∈ BW := bw_at 443 (by decide +kernel) rfl
theorem kk_384 : Cond.fieldLink "WhiteElephants" 22 "WhiteElephants" "tape" "LWhiteElephants$Tape;" ∈ BW := bw_at 444 (by decide +kernel) rfl
theorem kk_385 : Cond.fieldLink "WhiteElephants" 29 "WhiteElephants" "now" "LWhiteElephants$Hall;" ∈ BW := bw_at 445 (by decide +kernel) rfl
theorem kk_387 : Cond.fieldLink "WhiteElephants" 39 "WhiteElephants" "sale" "LWhiteElephants$Sale;" ∈ BW := bw_at 447 (by decide +kernel) rfl
theorem kk_388 : Cond.fieldLink "WhiteElephants" 46 "WhiteElephants" "picks" "LWhiteElephants$Picks;" ∈ BW := bw_at 448 (by decide +kernel) rfl
theorem kk_389 : Cond.fieldLink "WhiteElephants" 50 "WhiteElephants" "imaged" "Z" ∈ BW := bw_at 449 (by decide +kernel) rfl
theorem kk_410 : Cond.code ⟨"WhiteElephants", "row", "(III)I"⟩ prog_1_method_2_code 4 (some .int) ∈ BW := bw_at 470 (by decide +kernel) rfl
theorem kk_411 : Cond.methodLink "WhiteElephants" 55 ⟨"WhiteElephants", "isShelf", "(I)Z"⟩ ∈ BW := bw_at 471 (by decide +kernel) rfl
theorem kk_412 : Cond.static ⟨"WhiteElephants", "isShelf", "(I)Z"⟩ ∈ BW := bw_at 472 (by decide +kernel) rfl
theorem kk_413 : Cond.code ⟨"WhiteElephants", "isShelf", "(I)Z"⟩ prog_1_method_51_code 1 (some .boolean) ∈ BW := bw_at 473 (by decide +kernel) rfl
theorem kk_414 : Cond.methodLink "WhiteElephants" 59 ⟨"WhiteElephants", "within", "(III)Z"⟩ ∈ BW := bw_at 474 (by decide +kernel) rfl
theorem kk_415 : Cond.static ⟨"WhiteElephants", "within", "(III)Z"⟩ ∈ BW := bw_at 475 (by decide +kernel) rfl
theorem kk_416 : Cond.code ⟨"WhiteElephants", "within", "(III)Z"⟩ prog_1_method_50_code 3 (some .boolean) ∈ BW := bw_at 476 (by decide +kernel) rfl
theorem kk_417 : Cond.methodLink "WhiteElephants" 63 ⟨"WhiteElephants", "refuse", "(I)I"⟩ ∈ BW := bw_at 477 (by decide +kernel) rfl
theorem kk_419 : Cond.instanceMethod ⟨"WhiteElephants", "refuse", "(I)I"⟩ ∈ BW := bw_at 479 (by decide +kernel) rfl
theorem kk_420 : Cond.code ⟨"WhiteElephants", "refuse", "(I)I"⟩ prog_1_method_58_code 3 (some .int) ∈ BW := bw_at 480 (by decide +kernel) rfl
theorem kk_421 : Cond.methodLink "WhiteElephants" 67 ⟨"WhiteElephants$Shelf", "takeRow", "(II)V"⟩ ∈ BW := bw_at 481 (by decide +kernel) rfl
theorem kk_422 : Cond.instanceMethod ⟨"WhiteElephants$Shelf", "takeRow", "(II)V"⟩ ∈ BW := bw_at 482 (by decide +kernel) rfl
theorem kk_423 : Cond.selects "WhiteElephants$Shelf" ⟨"WhiteElephants$Shelf", "takeRow", "(II)V"⟩ ⟨"WhiteElephants$Shelf", "takeRow", "(II)V"⟩ ∈ BW := bw_at 483 (by decide +kernel) rfl
theorem kk_424 : Cond.code ⟨"WhiteElephants$Shelf", "takeRow", "(II)V"⟩ prog_9_method_6_code 3 (none : Option Jvm.ClassFile.FieldType) ∈ BW := bw_at 484 (by decide +kernel) rfl
theorem kk_425 : Cond.methodLink "WhiteElephants$Shelf" 26 ⟨"java/util/Arrays", "fill", "([JJ)V"⟩ ∈ BW := bw_at 485 (by decide +kernel) rfl
theorem kk_426 : Cond.static ⟨"java/util/Arrays", "fill", "([JJ)V"⟩ ∈ BW := bw_at 486 (by decide +kernel) rfl
theorem kk_427 : Cond.code ⟨"java/util/Arrays", "fill", "([JJ)V"⟩ prog_21_method_101_code 5 (none : Option Jvm.ClassFile.FieldType) ∈ BW := bw_at 487 (by decide +kernel) rfl
theorem kk_431 : Cond.code ⟨"WhiteElephants", "set", "(IIJ)I"⟩ prog_1_method_3_code 6 (some .int) ∈ BW := bw_at 491 (by decide +kernel) rfl
theorem kk_432 : Cond.methodLink "WhiteElephants" 71 ⟨"WhiteElephants", "refusalOfRow", "(I)I"⟩ ∈ BW := bw_at 492 (by decide +kernel) rfl
theorem kk_434 : Cond.instanceMethod ⟨"WhiteElephants", "refusalOfRow", "(I)I"⟩ ∈ BW := bw_at 494 (by decide +kernel) rfl
theorem kk_435 : Cond.code ⟨"WhiteElephants", "refusalOfRow", "(I)I"⟩ prog_1_method_59_code 2 (some .int) ∈ BW := bw_at 495 (by decide +kernel) rfl
theorem kk_436 : Cond.methodLink "WhiteElephants" 82 ⟨"WhiteElephants$Shelf", "hasThing", "()Z"⟩ ∈ BW := bw_at 496 (by decide +kernel) rfl
theorem kk_437 : Cond.instanceMethod ⟨"WhiteElephants$Shelf", "hasThing", "()Z"⟩ ∈ BW := bw_at 497 (by decide +kernel) rfl
theorem kk_438 : Cond.selects "WhiteElephants$Shelf" ⟨"WhiteElephants$Shelf", "hasThing", "()Z"⟩ ⟨"WhiteElephants$Shelf", "hasThing", "()Z"⟩ ∈ BW := bw_at 498 (by decide +kernel) rfl
theorem kk_439 : Cond.code ⟨"WhiteElephants$Shelf", "hasThing", "()Z"⟩ prog_9_method_4_code 1 (some .boolean) ∈ BW := bw_at 499 (by decide +kernel) rfl
theorem kk_440 : Cond.methodLink "WhiteElephants" 92 ⟨"WhiteElephants$Shelf", "isEmpty", "()Z"⟩ ∈ BW := bw_at 500 (by decide +kernel) rfl
theorem kk_441 : Cond.instanceMethod ⟨"WhiteElephants$Shelf", "isEmpty", "()Z"⟩ ∈ BW := bw_at 501 (by decide +kernel) rfl
theorem kk_442 : Cond.selects "WhiteElephants$Shelf" ⟨"WhiteElephants$Shelf", "isEmpty", "()Z"⟩ ⟨"WhiteElephants$Shelf", "isEmpty", "()Z"⟩ ∈ BW := bw_at 502 (by decide +kernel) rfl
theorem kk_443 : Cond.code ⟨"WhiteElephants$Shelf", "isEmpty", "()Z"⟩ prog_9_method_2_code 1 (some .boolean) ∈ BW := bw_at 503 (by decide +kernel) rfl
theorem kk_448 : Cond.methodLink "WhiteElephants$Shelf" 32 ⟨"WhiteElephants$Shelf", "hasRow", "()Z"⟩ ∈ BW := bw_at 508 (by decide +kernel) rfl
theorem kk_449 : Cond.instanceMethod ⟨"WhiteElephants$Shelf", "hasRow", "()Z"⟩ ∈ BW := bw_at 509 (by decide +kernel) rfl
theorem kk_450 : Cond.selects "WhiteElephants$Shelf" ⟨"WhiteElephants$Shelf", "hasRow", "()Z"⟩ ⟨"WhiteElephants$Shelf", "hasRow", "()Z"⟩ ∈ BW := bw_at 510 (by decide +kernel) rfl
theorem kk_451 : Cond.code ⟨"WhiteElephants$Shelf", "hasRow", "()Z"⟩ prog_9_method_3_code 1 (some .boolean) ∈ BW := bw_at 511 (by decide +kernel) rfl
theorem kk_460 : Cond.code ⟨"WhiteElephants", "copy", "(IIIII)I"⟩ prog_1_method_4_code 8 (some .int) ∈ BW := bw_at 520 (by decide +kernel) rfl
theorem kk_461 : Cond.methodLink "WhiteElephants" 86 ⟨"WhiteElephants$Shelf", "hasRow", "()Z"⟩ ∈ BW := bw_at 521 (by decide +kernel) rfl
theorem kk_472 : Cond.code ⟨"WhiteElephants", "element", "(II)J"⟩ prog_1_method_5_code 3 (some .long) ∈ BW := bw_at 532 (by decide +kernel) rfl
theorem kk_473 : Cond.methodLink "WhiteElephants" 109 ⟨"WhiteElephants$Shelf", "at", "(I)J"⟩ ∈ BW := bw_at 533 (by decide +kernel) rfl
theorem kk_474 : Cond.instanceMethod ⟨"WhiteElephants$Shelf", "at", "(I)J"⟩ ∈ BW := bw_at 534 (by decide +kernel) rfl
theorem kk_475 : Cond.selects "WhiteElephants$Shelf" ⟨"WhiteElephants$Shelf", "at", "(I)J"⟩ ⟨"WhiteElephants$Shelf", "at", "(I)J"⟩ ∈ BW := bw_at 535 (by decide +kernel) rfl
theorem kk_476 : Cond.code ⟨"WhiteElephants$Shelf", "at", "(I)J"⟩ prog_9_method_7_code 2 (some .long) ∈ BW := bw_at 536 (by decide +kernel) rfl
theorem kk_480 : Cond.code ⟨"WhiteElephants", "holds", "(I)I"⟩ prog_1_method_6_code 2 (some .int) ∈ BW := bw_at 540 (by decide +kernel) rfl
theorem kk_484 : Cond.code ⟨"WhiteElephants", "show", "(II)I"⟩ prog_1_method_7_code 3 (some .int) ∈ BW := bw_at 544 (by decide +kernel) rfl
theorem kk_485 : Cond.methodLink "WhiteElephants" 117 ⟨"WhiteElephants$Things", "has", "(I)Z"⟩ ∈ BW := bw_at 545 (by decide +kernel) rfl
theorem kk_486 : Cond.instanceMethod ⟨"WhiteElephants$Things", "has", "(I)Z"⟩ ∈ BW := bw_at 546 (by decide +kernel) rfl
theorem kk_487 : Cond.selects "WhiteElephants$Things" ⟨"WhiteElephants$Things", "has", "(I)Z"⟩ ⟨"WhiteElephants$Things", "has", "(I)Z"⟩ ∈ BW := bw_at 547 (by decide +kernel) rfl
theorem kk_488 : Cond.code ⟨"WhiteElephants$Things", "has", "(I)Z"⟩ prog_12_method_2_code 2 (some .boolean) ∈ BW := bw_at 548 (by decide +kernel) rfl
theorem kk_493 : Cond.code ⟨"WhiteElephants", "says", "(II)I"⟩ prog_1_method_8_code 5 (some .int) ∈ BW := bw_at 553 (by decide +kernel) rfl
theorem kk_494 : Cond.methodLink "WhiteElephants" 122 ⟨"WhiteElephants", "isKind", "(I)Z"⟩ ∈ BW := bw_at 554 (by decide +kernel) rfl
theorem kk_495 : Cond.static ⟨"WhiteElephants", "isKind", "(I)Z"⟩ ∈ BW := bw_at 555 (by decide +kernel) rfl
theorem kk_496 : Cond.code ⟨"WhiteElephants", "isKind", "(I)Z"⟩ prog_1_method_52_code 1 (some .boolean) ∈ BW := bw_at 556 (by decide +kernel) rfl
theorem kk_508 : Cond.static ⟨"java/lang/Integer", "bitCount", "(I)I"⟩ ∈ BW := bw_at 568 (by decide +kernel) rfl
theorem kk_509 : Cond.code ⟨"java/lang/Integer", "bitCount", "(I)I"⟩ prog_15_method_49_code 1 (some .int) ∈ BW := bw_at 569 (by decide +kernel) rfl
theorem kk_510 : Cond.constant "java/lang/Integer" 265 (1431655765 : Int32) ∈ BW := bw_at 570 (by decide +kernel) rfl
theorem kk_511 : Cond.constant "java/lang/Integer" 266 (858993459 : Int32) ∈ BW := bw_at 571 (by decide +kernel) rfl
theorem kk_512 : Cond.constant "java/lang/Integer" 267 (252645135 : Int32) ∈ BW := bw_at 572 (by decide +kernel) rfl
theorem kk_541 : Cond.code ⟨"WhiteElephants", "thing", "(III)I"⟩ prog_1_method_9_code 4 (some .int) ∈ BW := bw_at 601 (by decide +kernel) rfl
theorem kk_542 : Cond.methodLink "WhiteElephants" 135 ⟨"WhiteElephants$Things", "add", "(III)I"⟩ ∈ BW := bw_at 602 (by decide +kernel) rfl
theorem kk_543 : Cond.instanceMethod ⟨"WhiteElephants$Things", "add", "(III)I"⟩ ∈ BW := bw_at 603 (by decide +kernel) rfl
theorem kk_544 : Cond.selects "WhiteElephants$Things" ⟨"WhiteElephants$Things", "add", "(III)I"⟩ ⟨"WhiteElephants$Things", "add", "(III)I"⟩ ∈ BW := bw_at 604 (by decide +kernel) rfl
theorem kk_545 : Cond.code ⟨"WhiteElephants$Things", "add", "(III)I"⟩ prog_12_method_3_code 4 (some .int) ∈ BW := bw_at 605 (by decide +kernel) rfl
theorem kk_549 : Cond.code ⟨"WhiteElephants", "things", "(III)I"⟩ prog_1_method_10_code 9 (some .int) ∈ BW := bw_at 609 (by decide +kernel) rfl
theorem kk_554 : Cond.code ⟨"WhiteElephants", "thingOf", "(II)I"⟩ prog_1_method_11_code 3 (some .int) ∈ BW := bw_at 614 (by decide +kernel) rfl
theorem kk_559 : Cond.code ⟨"WhiteElephants", "chip", "(II)I"⟩ prog_1_method_12_code 3 (some .int) ∈ BW := bw_at 619 (by decide +kernel) rfl
theorem kk_564 : Cond.code ⟨"WhiteElephants", "lady", "(II)I"⟩ prog_1_method_13_code 3 (some .int) ∈ BW := bw_at 624 (by decide +kernel) rfl
theorem kk_565 : Cond.methodLink "WhiteElephants" 165 ⟨"WhiteElephants", "isKinds", "(I)Z"⟩ ∈ BW := bw_at 625 (by decide +kernel) rfl
theorem kk_566 : Cond.static ⟨"WhiteElephants", "isKinds", "(I)Z"⟩ ∈ BW := bw_at 626 (by decide +kernel) rfl
theorem kk_567 : Cond.code ⟨"WhiteElephants", "isKinds", "(I)Z"⟩ prog_1_method_53_code 1 (some .boolean) ∈ BW := bw_at 627 (by decide +kernel) rfl
theorem kk_568 : Cond.methodLink "WhiteElephants" 175 ⟨"WhiteElephants$Ladies", "add", "(II)I"⟩ ∈ BW := bw_at 628 (by decide +kernel) rfl
theorem kk_569 : Cond.instanceMethod ⟨"WhiteElephants$Ladies", "add", "(II)I"⟩ ∈ BW := bw_at 629 (by decide +kernel) rfl
theorem kk_570 : Cond.selects "WhiteElephants$Ladies" ⟨"WhiteElephants$Ladies", "add", "(II)I"⟩ ⟨"WhiteElephants$Ladies", "add", "(II)I"⟩ ∈ BW := bw_at 630 (by decide +kernel) rfl
theorem kk_571 : Cond.code ⟨"WhiteElephants$Ladies", "add", "(II)I"⟩ prog_4_method_3_code 3 (some .int) ∈ BW := bw_at 631 (by decide +kernel) rfl
theorem kk_575 : Cond.code ⟨"WhiteElephants", "goes", "(II)I"⟩ prog_1_method_14_code 4 (some .int) ∈ BW := bw_at 635 (by decide +kernel) rfl
theorem kk_576 : Cond.methodLink "WhiteElephants" 177 ⟨"WhiteElephants$Ladies", "has", "(I)Z"⟩ ∈ BW := bw_at 636 (by decide +kernel) rfl
theorem kk_577 : Cond.instanceMethod ⟨"WhiteElephants$Ladies", "has", "(I)Z"⟩ ∈ BW := bw_at 637 (by decide +kernel) rfl
theorem kk_578 : Cond.selects "WhiteElephants$Ladies" ⟨"WhiteElephants$Ladies", "has", "(I)Z"⟩ ⟨"WhiteElephants$Ladies", "has", "(I)Z"⟩ ∈ BW := bw_at 638 (by decide +kernel) rfl
theorem kk_579 : Cond.code ⟨"WhiteElephants$Ladies", "has", "(I)Z"⟩ prog_4_method_2_code 2 (some .boolean) ∈ BW := bw_at 639 (by decide +kernel) rfl
theorem kk_581 : Cond.methodLink "WhiteElephants" 182 ⟨"WhiteElephants$Laws", "has", "(I)Z"⟩ ∈ BW := bw_at 641 (by decide +kernel) rfl
theorem kk_582 : Cond.instanceMethod ⟨"WhiteElephants$Laws", "has", "(I)Z"⟩ ∈ BW := bw_at 642 (by decide +kernel) rfl
theorem kk_583 : Cond.selects "WhiteElephants$Laws" ⟨"WhiteElephants$Laws", "has", "(I)Z"⟩ ⟨"WhiteElephants$Laws", "has", "(I)Z"⟩ ∈ BW := bw_at 643 (by decide +kernel) rfl
theorem kk_584 : Cond.code ⟨"WhiteElephants$Laws", "has", "(I)Z"⟩ prog_5_method_3_code 2 (some .boolean) ∈ BW := bw_at 644 (by decide +kernel) rfl
theorem kk_597 : Cond.code ⟨"WhiteElephants", "wipe", "()I"⟩ prog_1_method_16_code 2 (some .int) ∈ BW := bw_at 657 (by decide +kernel) rfl
theorem kk_702 : Cond.code ⟨"WhiteElephants", "lawOf", "(II)I"⟩ prog_1_method_18_code 3 (some .int) ∈ BW := bw_at 762 (by decide +kernel) rfl
theorem kk_711 : Cond.code ⟨"WhiteElephants", "thinks", "(IIZ)I"⟩ prog_1_method_19_code 4 (some .int) ∈ BW := bw_at 771 (by decide +kernel) rfl
theorem kk_732 : Cond.code ⟨"WhiteElephants", "price", "(II)I"⟩ prog_1_method_20_code 3 (some .int) ∈ BW := bw_at 792 (by decide +kernel) rfl
theorem kk_745 : Cond.code ⟨"WhiteElephants", "mark", "(II)I"⟩ prog_1_method_21_code 4 (some .int) ∈ BW := bw_at 805 (by decide +kernel) rfl
theorem kk_753 : Cond.code ⟨"WhiteElephants", "buyer", "(IIII)I"⟩ prog_1_method_22_code 5 (some .int) ∈ BW := bw_at 813 (by decide +kernel) rfl
theorem kk_754 : Cond.methodLink "WhiteElephants" 216 ⟨"WhiteElephants", "isHour", "(I)Z"⟩ ∈ BW := bw_at 814 (by decide +kernel) rfl
theorem kk_755 : Cond.static ⟨"WhiteElephants", "isHour", "(I)Z"⟩ ∈ BW := bw_at 815 (by decide +kernel) rfl
theorem kk_756 : Cond.code ⟨"WhiteElephants", "isHour", "(I)Z"⟩ prog_1_method_54_code 1 (some .boolean) ∈ BW := bw_at 816 (by decide +kernel) rfl
theorem kk_757 : Cond.methodLink "WhiteElephants" 226 ⟨"WhiteElephants$Buyers", "add", "(IIII)I"⟩ ∈ BW := bw_at 817 (by decide +kernel) rfl
theorem kk_758 : Cond.instanceMethod ⟨"WhiteElephants$Buyers", "add", "(IIII)I"⟩ ∈ BW := bw_at 818 (by decide +kernel) rfl
theorem kk_759 : Cond.selects "WhiteElephants$Buyers" ⟨"WhiteElephants$Buyers", "add", "(IIII)I"⟩ ⟨"WhiteElephants$Buyers", "add", "(IIII)I"⟩ ∈ BW := bw_at 819 (by decide +kernel) rfl
theorem kk_760 : Cond.code ⟨"WhiteElephants$Buyers", "add", "(IIII)I"⟩ prog_2_method_3_code 5 (some .int) ∈ BW := bw_at 820 (by decide +kernel) rfl
theorem kk_764 : Cond.code ⟨"WhiteElephants", "buyerOf", "(II)I"⟩ prog_1_method_23_code 3 (some .int) ∈ BW := bw_at 824 (by decide +kernel) rfl
theorem kk_765 : Cond.methodLink "WhiteElephants" 229 ⟨"WhiteElephants$Buyers", "has", "(I)Z"⟩ ∈ BW := bw_at 825 (by decide +kernel) rfl
theorem kk_766 : Cond.instanceMethod ⟨"WhiteElephants$Buyers", "has", "(I)Z"⟩ ∈ BW := bw_at 826 (by decide +kernel) rfl
theorem kk_767 : Cond.selects "WhiteElephants$Buyers" ⟨"WhiteElephants$Buyers", "has", "(I)Z"⟩ ⟨"WhiteElephants$Buyers", "has", "(I)Z"⟩ ∈ BW := bw_at 827 (by decide +kernel) rfl
theorem kk_768 : Cond.code ⟨"WhiteElephants$Buyers", "has", "(I)Z"⟩ prog_2_method_2_code 2 (some .boolean) ∈ BW := bw_at 828 (by decide +kernel) rfl
theorem kk_773 : Cond.code ⟨"WhiteElephants", "turn", "(II)I"⟩ prog_1_method_24_code 4 (some .int) ∈ BW := bw_at 833 (by decide +kernel) rfl
theorem kk_777 : Cond.code ⟨"WhiteElephants", "costs", "(II)I"⟩ prog_1_method_25_code 3 (some .int) ∈ BW := bw_at 837 (by decide +kernel) rfl
theorem kk_779 : Cond.static ⟨"WhiteElephants$Sale", "stage", "(III)I"⟩ ∈ BW := bw_at 839 (by decide +kernel) rfl
theorem kk_780 : Cond.code ⟨"WhiteElephants$Sale", "stage", "(III)I"⟩ prog_7_method_2_code 3 (some .int) ∈ BW := bw_at 840 (by decide +kernel) rfl
theorem kk_787 : Cond.code ⟨"WhiteElephants", "takes", "(II)I"⟩ prog_1_method_26_code 3 (some .int) ∈ BW := bw_at 847 (by decide +kernel) rfl
theorem kk_789 : Cond.instanceMethod ⟨"WhiteElephants$Sale", "open", "(LWhiteElephants$Hall;II)V"⟩ ∈ BW := bw_at 849 (by decide +kernel) rfl
theorem kk_790 : Cond.selects "WhiteElephants$Sale" ⟨"WhiteElephants$Sale", "open", "(LWhiteElephants$Hall;II)V"⟩ ⟨"WhiteElephants$Sale", "open", "(LWhiteElephants$Hall;II)V"⟩ ∈ BW := bw_at 850 (by decide +kernel) rfl
theorem kk_791 : Cond.code ⟨"WhiteElephants$Sale", "open", "(LWhiteElephants$Hall;II)V"⟩ prog_7_method_4_code 6 (none : Option Jvm.ClassFile.FieldType) ∈ BW := bw_at 851 (by decide +kernel) rfl
theorem kk_802 : Cond.methodLink "WhiteElephants$Sale" 70 ⟨"WhiteElephants$Sale", "stage", "(III)I"⟩ ∈ BW := bw_at 862 (by decide +kernel) rfl
theorem kk_812 : Cond.code ⟨"WhiteElephants", "takings", "(II)I"⟩ prog_1_method_27_code 3 (some .int) ∈ BW := bw_at 872 (by decide +kernel) rfl
theorem kk_813 : Cond.methodLink "WhiteElephants" 265 ⟨"WhiteElephants$Sale", "wholeDay", "(LWhiteElephants$Hall;II)I"⟩ ∈ BW := bw_at 873 (by decide +kernel) rfl
theorem kk_814 : Cond.instanceMethod ⟨"WhiteElephants$Sale", "wholeDay", "(LWhiteElephants$Hall;II)I"⟩ ∈ BW := bw_at 874 (by decide +kernel) rfl
theorem kk_815 : Cond.selects "WhiteElephants$Sale" ⟨"WhiteElephants$Sale", "wholeDay", "(LWhiteElephants$Hall;II)I"⟩ ⟨"WhiteElephants$Sale", "wholeDay", "(LWhiteElephants$Hall;II)I"⟩ ∈ BW := bw_at 875 (by decide +kernel) rfl
theorem kk_816 : Cond.code ⟨"WhiteElephants$Sale", "wholeDay", "(LWhiteElephants$Hall;II)I"⟩ prog_7_method_9_code 6 (some .int) ∈ BW := bw_at 876 (by decide +kernel) rfl
theorem kk_817 : Cond.methodLink "WhiteElephants$Sale" 104 ⟨"WhiteElephants$Sale", "open", "(LWhiteElephants$Hall;II)V"⟩ ∈ BW := bw_at 877 (by decide +kernel) rfl
theorem kk_818 : Cond.methodLink "WhiteElephants$Sale" 108 ⟨"WhiteElephants$Sale", "playHour", "(LWhiteElephants$Hall;I)I"⟩ ∈ BW := bw_at 878 (by decide +kernel) rfl
theorem kk_819 : Cond.instanceMethod ⟨"WhiteElephants$Sale", "playHour", "(LWhiteElephants$Hall;I)I"⟩ ∈ BW := bw_at 879 (by decide +kernel) rfl
theorem kk_820 : Cond.selects "WhiteElephants$Sale" ⟨"WhiteElephants$Sale", "playHour", "(LWhiteElephants$Hall;I)I"⟩ ⟨"WhiteElephants$Sale", "playHour", "(LWhiteElephants$Hall;I)I"⟩ ∈ BW := bw_at 880 (by decide +kernel) rfl
theorem kk_821 : Cond.code ⟨"WhiteElephants$Sale", "playHour", "(LWhiteElephants$Hall;I)I"⟩ prog_7_method_6_code 7 (some .int) ∈ BW := bw_at 881 (by decide +kernel) rfl
theorem kk_839 : Cond.code ⟨"WhiteElephants", "judge", "(I)I"⟩ prog_1_method_29_code 4 (some .int) ∈ BW := bw_at 899 (by decide +kernel) rfl
theorem kk_844 : Cond.code ⟨"WhiteElephants", "rest", "(I)I"⟩ prog_1_method_30_code 2 (some .int) ∈ BW := bw_at 904 (by decide +kernel) rfl
theorem kk_845 : Cond.methodLink "WhiteElephants" 276 ⟨"WhiteElephants$Things", "worthLeft", "(I)I"⟩ ∈ BW := bw_at 905 (by decide +kernel) rfl
theorem kk_846 : Cond.instanceMethod ⟨"WhiteElephants$Things", "worthLeft", "(I)I"⟩ ∈ BW := bw_at 906 (by decide +kernel) rfl
theorem kk_847 : Cond.selects "WhiteElephants$Things" ⟨"WhiteElephants$Things", "worthLeft", "(I)I"⟩ ⟨"WhiteElephants$Things", "worthLeft", "(I)I"⟩ ∈ BW := bw_at 907 (by decide +kernel) rfl
theorem kk_848 : Cond.code ⟨"WhiteElephants$Things", "worthLeft", "(I)I"⟩ prog_12_method_14_code 4 (some .int) ∈ BW := bw_at 908 (by decide +kernel) rfl
theorem kk_853 : Cond.code ⟨"WhiteElephants", "loses", "(II)I"⟩ prog_1_method_31_code 3 (some .int) ∈ BW := bw_at 913 (by decide +kernel) rfl
theorem kk_867 : Cond.code ⟨"WhiteElephants$Sale", "settle", "(LWhiteElephants$Hall;)V"⟩ prog_7_method_11_code 6 (none : Option Jvm.ClassFile.FieldType) ∈ BW := bw_at 927 (by decide +kernel) rfl
theorem kk_872 : Cond.code ⟨"WhiteElephants", "day", "(I)I"⟩ prog_1_method_33_code 2 (some .int) ∈ BW := bw_at 932 (by decide +kernel) rfl
theorem kk_873 : Cond.methodLink "WhiteElephants" 296 ⟨"WhiteElephants$Things", "countLeft", "()I"⟩ ∈ BW := bw_at 933 (by decide +kernel) rfl
theorem kk_874 : Cond.instanceMethod ⟨"WhiteElephants$Things", "countLeft", "()I"⟩ ∈ BW := bw_at 934 (by decide +kernel) rfl
theorem kk_875 : Cond.selects "WhiteElephants$Things" ⟨"WhiteElephants$Things", "countLeft", "()I"⟩ ⟨"WhiteElephants$Things", "countLeft", "()I"⟩ ∈ BW := bw_at 935 (by decide +kernel) rfl
theorem kk_876 : Cond.code ⟨"WhiteElephants$Things", "countLeft", "()I"⟩ prog_12_method_13_code 3 (some .int) ∈ BW := bw_at 936 (by decide +kernel) rfl
theorem kk_880 : Cond.code ⟨"WhiteElephants", "morning", "()I"⟩ prog_1_method_34_code 2 (some .int) ∈ BW := bw_at 940 (by decide +kernel) rfl
theorem kk_884 : Cond.code ⟨"WhiteElephants", "shown", "(I)I"⟩ prog_1_method_35_code 2 (some .int) ∈ BW := bw_at 944 (by decide +kernel) rfl
theorem kk_885 : Cond.methodLink "WhiteElephants" 299 ⟨"WhiteElephants$Picks", "bargains", "(LWhiteElephants$Things;I)I"⟩ ∈ BW := bw_at 945 (by decide +kernel) rfl
theorem kk_886 : Cond.instanceMethod ⟨"WhiteElephants$Picks", "bargains", "(LWhiteElephants$Things;I)I"⟩ ∈ BW := bw_at 946 (by decide +kernel) rfl
theorem kk_887 : Cond.selects "WhiteElephants$Picks" ⟨"WhiteElephants$Picks", "bargains", "(LWhiteElephants$Things;I)I"⟩ ⟨"WhiteElephants$Picks", "bargains", "(LWhiteElephants$Things;I)I"⟩ ∈ BW := bw_at 947 (by decide +kernel) rfl
theorem kk_888 : Cond.code ⟨"WhiteElephants$Picks", "bargains", "(LWhiteElephants$Things;I)I"⟩ prog_6_method_2_code 4 (some .int) ∈ BW := bw_at 948 (by decide +kernel) rfl
theorem kk_898 : Cond.code ⟨"WhiteElephants", "table", "(I)I"⟩ prog_1_method_36_code 2 (some .int) ∈ BW := bw_at 958 (by decide +kernel) rfl
theorem kk_902 : Cond.code ⟨"WhiteElephants", "who", "(I)I"⟩ prog_1_method_37_code 2 (some .int) ∈ BW := bw_at 962 (by decide +kernel) rfl
theorem kk_903 : Cond.methodLink "WhiteElephants" 309 ⟨"WhiteElephants$Hall", "planTables", "()V"⟩ ∈ BW := bw_at 963 (by decide +kernel) rfl
theorem kk_904 : Cond.instanceMethod ⟨"WhiteElephants$Hall", "planTables", "()V"⟩ ∈ BW := bw_at 964 (by decide +kernel) rfl
theorem kk_905 : Cond.selects "WhiteElephants$Hall" ⟨"WhiteElephants$Hall", "planTables", "()V"⟩ ⟨"WhiteElephants$Hall", "planTables", "()V"⟩ ∈ BW := bw_at 965 (by decide +kernel) rfl
theorem kk_906 : Cond.code ⟨"WhiteElephants$Hall", "planTables", "()V"⟩ prog_3_method_7_code 4 (none : Option Jvm.ClassFile.FieldType) ∈ BW := bw_at 966 (by decide +kernel) rfl
theorem kk_908 : Cond.methodLink "WhiteElephants$Hall" 134 ⟨"java/lang/Integer", "bitCount", "(I)I"⟩ ∈ BW := bw_at 968 (by decide +kernel) rfl
theorem kk_909 : Cond.methodLink "WhiteElephants$Hall" 139 ⟨"WhiteElephants$Hall", "bestLady", "(II)I"⟩ ∈ BW := bw_at 969 (by decide +kernel) rfl
theorem kk_911 : Cond.instanceMethod ⟨"WhiteElephants$Hall", "bestLady", "(II)I"⟩ ∈ BW := bw_at 971 (by decide +kernel) rfl
theorem kk_912 : Cond.code ⟨"WhiteElephants$Hall", "bestLady", "(II)I"⟩ prog_3_method_8_code 7 (some .int) ∈ BW := bw_at 972 (by decide +kernel) rfl
theorem kk_924 : Cond.code ⟨"WhiteElephants", "sight", "(IIII)I"⟩ prog_1_method_38_code 5 (some .int) ∈ BW := bw_at 984 (by decide +kernel) rfl
theorem kk_925 : Cond.methodLink "WhiteElephants" 318 ⟨"WhiteElephants", "isPersonOrNone", "(I)Z"⟩ ∈ BW := bw_at 985 (by decide +kernel) rfl
theorem kk_926 : Cond.static ⟨"WhiteElephants", "isPersonOrNone", "(I)Z"⟩ ∈ BW := bw_at 986 (by decide +kernel) rfl
theorem kk_927 : Cond.code ⟨"WhiteElephants", "isPersonOrNone", "(I)Z"⟩ prog_1_method_56_code 1 (some .boolean) ∈ BW := bw_at 987 (by decide +kernel) rfl
theorem kk_928 : Cond.methodLink "WhiteElephants" 339 ⟨"WhiteElephants", "isPerson", "(I)Z"⟩ ∈ BW := bw_at 988 (by decide +kernel) rfl
theorem kk_929 : Cond.static ⟨"WhiteElephants", "isPerson", "(I)Z"⟩ ∈ BW := bw_at 989 (by decide +kernel) rfl
theorem kk_930 : Cond.code ⟨"WhiteElephants", "isPerson", "(I)Z"⟩ prog_1_method_55_code 1 (some .boolean) ∈ BW := bw_at 990 (by decide +kernel) rfl
theorem kk_931 : Cond.methodLink "WhiteElephants" 328 ⟨"WhiteElephants$Sightings", "add", "(IIII)I"⟩ ∈ BW := bw_at 991 (by decide +kernel) rfl
theorem kk_932 : Cond.instanceMethod ⟨"WhiteElephants$Sightings", "add", "(IIII)I"⟩ ∈ BW := bw_at 992 (by decide +kernel) rfl
theorem kk_933 : Cond.selects "WhiteElephants$Sightings" ⟨"WhiteElephants$Sightings", "add", "(IIII)I"⟩ ⟨"WhiteElephants$Sightings", "add", "(IIII)I"⟩ ∈ BW := bw_at 993 (by decide +kernel) rfl
theorem kk_934 : Cond.code ⟨"WhiteElephants$Sightings", "add", "(IIII)I"⟩ prog_10_method_3_code 5 (some .int) ∈ BW := bw_at 994 (by decide +kernel) rfl
theorem kk_938 : Cond.code ⟨"WhiteElephants", "same", "(II)I"⟩ prog_1_method_39_code 3 (some .int) ∈ BW := bw_at 998 (by decide +kernel) rfl
theorem kk_939 : Cond.methodLink "WhiteElephants" 329 ⟨"WhiteElephants$Sightings", "has", "(I)Z"⟩ ∈ BW := bw_at 999 (by decide +kernel) rfl
theorem kk_940 : Cond.instanceMethod ⟨"WhiteElephants$Sightings", "has", "(I)Z"⟩ ∈ BW := bw_at 1000 (by decide +kernel) rfl
theorem kk_941 : Cond.selects "WhiteElephants$Sightings" ⟨"WhiteElephants$Sightings", "has", "(I)Z"⟩ ⟨"WhiteElephants$Sightings", "has", "(I)Z"⟩ ∈ BW := bw_at 1001 (by decide +kernel) rfl
theorem kk_942 : Cond.code ⟨"WhiteElephants$Sightings", "has", "(I)Z"⟩ prog_10_method_2_code 2 (some .boolean) ∈ BW := bw_at 1002 (by decide +kernel) rfl
theorem kk_951 : Cond.code ⟨"WhiteElephants", "vases", "()I"⟩ prog_1_method_40_code 1 (some .int) ∈ BW := bw_at 1011 (by decide +kernel) rfl
theorem kk_952 : Cond.methodLink "WhiteElephants" 333 ⟨"WhiteElephants$Sightings", "fewestVases", "()I"⟩ ∈ BW := bw_at 1012 (by decide +kernel) rfl
theorem kk_953 : Cond.instanceMethod ⟨"WhiteElephants$Sightings", "fewestVases", "()I"⟩ ∈ BW := bw_at 1013 (by decide +kernel) rfl
theorem kk_954 : Cond.selects "WhiteElephants$Sightings" ⟨"WhiteElephants$Sightings", "fewestVases", "()I"⟩ ⟨"WhiteElephants$Sightings", "fewestVases", "()I"⟩ ∈ BW := bw_at 1014 (by decide +kernel) rfl
theorem kk_955 : Cond.code ⟨"WhiteElephants$Sightings", "fewestVases", "()I"⟩ prog_10_method_5_code 3 (some .int) ∈ BW := bw_at 1015 (by decide +kernel) rfl
theorem kk_956 : Cond.methodLink "WhiteElephants$Sightings" 41 ⟨"java/util/Arrays", "fill", "([II)V"⟩ ∈ BW := bw_at 1016 (by decide +kernel) rfl
theorem kk_957 : Cond.static ⟨"java/util/Arrays", "fill", "([II)V"⟩ ∈ BW := bw_at 1017 (by decide +kernel) rfl
theorem kk_958 : Cond.code ⟨"java/util/Arrays", "fill", "([II)V"⟩ prog_21_method_103_code 4 (none : Option Jvm.ClassFile.FieldType) ∈ BW := bw_at 1018 (by decide +kernel) rfl
theorem kk_966 : Cond.code ⟨"WhiteElephants", "longest", "()I"⟩ prog_1_method_41_code 1 (some .int) ∈ BW := bw_at 1026 (by decide +kernel) rfl
theorem kk_967 : Cond.methodLink "WhiteElephants" 336 ⟨"WhiteElephants$Sightings", "longestRow", "()I"⟩ ∈ BW := bw_at 1027 (by decide +kernel) rfl
theorem kk_968 : Cond.instanceMethod ⟨"WhiteElephants$Sightings", "longestRow", "()I"⟩ ∈ BW := bw_at 1028 (by decide +kernel) rfl
theorem kk_969 : Cond.selects "WhiteElephants$Sightings" ⟨"WhiteElephants$Sightings", "longestRow", "()I"⟩ ⟨"WhiteElephants$Sightings", "longestRow", "()I"⟩ ∈ BW := bw_at 1029 (by decide +kernel) rfl
theorem kk_970 : Cond.code ⟨"WhiteElephants$Sightings", "longestRow", "()I"⟩ prog_10_method_7_code 4 (some .int) ∈ BW := bw_at 1030 (by decide +kernel) rfl
theorem kk_979 : Cond.code ⟨"WhiteElephants", "secret", "(II)I"⟩ prog_1_method_42_code 3 (some .int) ∈ BW := bw_at 1039 (by decide +kernel) rfl
theorem kk_987 : Cond.code ⟨"WhiteElephants", "looks", "(II)I"⟩ prog_1_method_43_code 4 (some .int) ∈ BW := bw_at 1047 (by decide +kernel) rfl
theorem kk_991 : Cond.code ⟨"WhiteElephants", "laid", "(II)I"⟩ prog_1_method_44_code 3 (some .int) ∈ BW := bw_at 1051 (by decide +kernel) rfl
theorem kk_1017 : Cond.code ⟨"WhiteElephants", "shortBy", "(I)I"⟩ prog_1_method_45_code 2 (some .int) ∈ BW := bw_at 1077 (by decide +kernel) rfl
theorem kk_1018 : Cond.methodLink "WhiteElephants" 359 ⟨"WhiteElephants$Picks", "fewestPaid", "(LWhiteElephants$Things;I)I"⟩ ∈ BW := bw_at 1078 (by decide +kernel) rfl
theorem kk_1019 : Cond.instanceMethod ⟨"WhiteElephants$Picks", "fewestPaid", "(LWhiteElephants$Things;I)I"⟩ ∈ BW := bw_at 1079 (by decide +kernel) rfl
theorem kk_1020 : Cond.selects "WhiteElephants$Picks" ⟨"WhiteElephants$Picks", "fewestPaid", "(LWhiteElephants$Things;I)I"⟩ ⟨"WhiteElephants$Picks", "fewestPaid", "(LWhiteElephants$Things;I)I"⟩ ∈ BW := bw_at 1080 (by decide +kernel) rfl
theorem kk_1021 : Cond.code ⟨"WhiteElephants$Picks", "fewestPaid", "(LWhiteElephants$Things;I)I"⟩ prog_6_method_4_code 5 (some .int) ∈ BW := bw_at 1081 (by decide +kernel) rfl
theorem kk_1032 : Cond.code ⟨"WhiteElephants", "hall", "(II)I"⟩ prog_1_method_46_code 3 (some .int) ∈ BW := bw_at 1092 (by decide +kernel) rfl
theorem kk_1086 : Cond.code ⟨"WhiteElephants", "back", "()I"⟩ prog_1_method_48_code 2 (some .int) ∈ BW := bw_at 1146 (by decide +kernel) rfl
theorem kk_1090 : Cond.code ⟨"WhiteElephants", "status", "(I)I"⟩ prog_1_method_49_code 2 (some .int) ∈ BW := bw_at 1150 (by decide +kernel) rfl
theorem kk_1091 : Cond.methodLink "WhiteElephants" 372 ⟨"WhiteElephants", "shelvesInUse", "()I"⟩ ∈ BW := bw_at 1151 (by decide +kernel) rfl
theorem kk_1093 : Cond.instanceMethod ⟨"WhiteElephants", "shelvesInUse", "()I"⟩ ∈ BW := bw_at 1153 (by decide +kernel) rfl
theorem kk_1094 : Cond.code ⟨"WhiteElephants", "shelvesInUse", "()I"⟩ prog_1_method_60_code 3 (some .int) ∈ BW := bw_at 1154 (by decide +kernel) rfl
theorem dd_J6_bitCount_0f7a4_0 : decode mb_J6_bitCount_0f7a4 0 = .ok (.iload_n 0, 1) := by decide +kernel
theorem dd_J6_bitCount_0f7a4_1 : decode mb_J6_bitCount_0f7a4 1 = .ok (.iload_n 0, 1) := by decide +kernel
theorem dd_J6_bitCount_0f7a4_2 : decode mb_J6_bitCount_0f7a4 2 = .ok (.iconst 1, 1) := by decide +kernel
theorem dd_J6_bitCount_0f7a4_3 : decode mb_J6_bitCount_0f7a4 3 = .ok (.iushr, 1) := by decide +kernel
theorem dd_J6_bitCount_0f7a4_4 : decode mb_J6_bitCount_0f7a4 4 = .ok (.ldc_w 265, 3) := by decide +kernel
theorem dd_J6_bitCount_0f7a4_7 : decode mb_J6_bitCount_0f7a4 7 = .ok (.iand, 1) := by decide +kernel
theorem dd_J6_bitCount_0f7a4_8 : decode mb_J6_bitCount_0f7a4 8 = .ok (.isub, 1) := by decide +kernel
theorem dd_J6_bitCount_0f7a4_9 : decode mb_J6_bitCount_0f7a4 9 = .ok (.istore_n 0, 1) := by decide +kernel
theorem dd_J6_bitCount_0f7a4_10 : decode mb_J6_bitCount_0f7a4 10 = .ok (.iload_n 0, 1) := by decide +kernel
theorem dd_J6_bitCount_0f7a4_11 : decode mb_J6_bitCount_0f7a4 11 = .ok (.ldc_w 266, 3) := by decide +kernel
theorem dd_J6_bitCount_0f7a4_14 : decode mb_J6_bitCount_0f7a4 14 = .ok (.iand, 1) := by decide +kernel
theorem dd_J6_bitCount_0f7a4_15 : decode mb_J6_bitCount_0f7a4 15 = .ok (.iload_n 0, 1) := by decide +kernel
theorem dd_J6_bitCount_0f7a4_16 : decode mb_J6_bitCount_0f7a4 16 = .ok (.iconst 2, 1) := by decide +kernel
theorem dd_J6_bitCount_0f7a4_17 : decode mb_J6_bitCount_0f7a4 17 = .ok (.iushr, 1) := by decide +kernel
theorem dd_J6_bitCount_0f7a4_18 : decode mb_J6_bitCount_0f7a4 18 = .ok (.ldc_w 266, 3) := by decide +kernel
theorem dd_J6_bitCount_0f7a4_21 : decode mb_J6_bitCount_0f7a4 21 = .ok (.iand, 1) := by decide +kernel
theorem dd_J6_bitCount_0f7a4_22 : decode mb_J6_bitCount_0f7a4 22 = .ok (.iadd, 1) := by decide +kernel
theorem dd_J6_bitCount_0f7a4_23 : decode mb_J6_bitCount_0f7a4 23 = .ok (.istore_n 0, 1) := by decide +kernel
theorem dd_J6_bitCount_0f7a4_24 : decode mb_J6_bitCount_0f7a4 24 = .ok (.iload_n 0, 1) := by decide +kernel
theorem dd_J6_bitCount_0f7a4_25 : decode mb_J6_bitCount_0f7a4 25 = .ok (.iload_n 0, 1) := by decide +kernel
theorem dd_J6_bitCount_0f7a4_26 : decode mb_J6_bitCount_0f7a4 26 = .ok (.iconst 4, 1) := by decide +kernel
theorem dd_J6_bitCount_0f7a4_27 : decode mb_J6_bitCount_0f7a4 27 = .ok (.iushr, 1) := by decide +kernel
theorem dd_J6_bitCount_0f7a4_28 : decode mb_J6_bitCount_0f7a4 28 = .ok (.iadd, 1) := by decide +kernel
theorem dd_J6_bitCount_0f7a4_29 : decode mb_J6_bitCount_0f7a4 29 = .ok (.ldc_w 267, 3) := by decide +kernel
theorem dd_J6_bitCount_0f7a4_32 : decode mb_J6_bitCount_0f7a4 32 = .ok (.iand, 1) := by decide +kernel
theorem dd_J6_bitCount_0f7a4_33 : decode mb_J6_bitCount_0f7a4 33 = .ok (.istore_n 0, 1) := by decide +kernel
theorem dd_J6_bitCount_0f7a4_34 : decode mb_J6_bitCount_0f7a4 34 = .ok (.iload_n 0, 1) := by decide +kernel
theorem dd_J6_bitCount_0f7a4_35 : decode mb_J6_bitCount_0f7a4 35 = .ok (.iload_n 0, 1) := by decide +kernel
theorem dd_J6_bitCount_0f7a4_36 : decode mb_J6_bitCount_0f7a4 36 = .ok (.bipush 8, 2) := by decide +kernel
theorem dd_J6_bitCount_0f7a4_38 : decode mb_J6_bitCount_0f7a4 38 = .ok (.iushr, 1) := by decide +kernel
theorem dd_J6_bitCount_0f7a4_39 : decode mb_J6_bitCount_0f7a4 39 = .ok (.iadd, 1) := by decide +kernel
theorem dd_J6_bitCount_0f7a4_40 : decode mb_J6_bitCount_0f7a4 40 = .ok (.istore_n 0, 1) := by decide +kernel
theorem dd_J6_bitCount_0f7a4_41 : decode mb_J6_bitCount_0f7a4 41 = .ok (.iload_n 0, 1) := by decide +kernel
theorem dd_J6_bitCount_0f7a4_42 : decode mb_J6_bitCount_0f7a4 42 = .ok (.iload_n 0, 1) := by decide +kernel
theorem dd_J6_bitCount_0f7a4_43 : decode mb_J6_bitCount_0f7a4 43 = .ok (.bipush 16, 2) := by decide +kernel
theorem dd_J6_bitCount_0f7a4_45 : decode mb_J6_bitCount_0f7a4 45 = .ok (.iushr, 1) := by decide +kernel
theorem dd_J6_bitCount_0f7a4_46 : decode mb_J6_bitCount_0f7a4 46 = .ok (.iadd, 1) := by decide +kernel
theorem dd_J6_bitCount_0f7a4_47 : decode mb_J6_bitCount_0f7a4 47 = .ok (.istore_n 0, 1) := by decide +kernel
theorem dd_J6_bitCount_0f7a4_48 : decode mb_J6_bitCount_0f7a4 48 = .ok (.iload_n 0, 1) := by decide +kernel
theorem dd_J6_bitCount_0f7a4_49 : decode mb_J6_bitCount_0f7a4 49 = .ok (.bipush 63, 2) := by decide +kernel
theorem dd_J6_bitCount_0f7a4_51 : decode mb_J6_bitCount_0f7a4 51 = .ok (.iand, 1) := by decide +kernel
theorem dd_J6_bitCount_0f7a4_52 : decode mb_J6_bitCount_0f7a4 52 = .ok (.ireturn, 1) := by decide +kernel
theorem dd_J7_fill_53178_0 : decode mb_J7_fill_53178 0 = .ok (.iconst 0, 1) := by decide +kernel
theorem dd_J7_fill_53178_1 : decode mb_J7_fill_53178 1 = .ok (.istore_n 2, 1) := by decide +kernel
theorem dd_J7_fill_53178_2 : decode mb_J7_fill_53178 2 = .ok (.aload_n 0, 1) := by decide +kernel
theorem dd_J7_fill_53178_3 : decode mb_J7_fill_53178 3 = .ok (.arraylength, 1) := by decide +kernel
theorem dd_J7_fill_53178_4 : decode mb_J7_fill_53178 4 = .ok (.istore_n 3, 1) := by decide +kernel
theorem dd_J7_fill_53178_5 : decode mb_J7_fill_53178 5 = .ok (.iload_n 2, 1) := by decide +kernel
theorem dd_J7_fill_53178_6 : decode mb_J7_fill_53178 6 = .ok (.iload_n 3, 1) := by decide +kernel
theorem dd_J7_fill_53178_7 : decode mb_J7_fill_53178 7 = .ok (.if_icmp .ge 13, 3) := by decide +kernel
theorem dd_J7_fill_53178_10 : decode mb_J7_fill_53178 10 = .ok (.aload_n 0, 1) := by decide +kernel
theorem dd_J7_fill_53178_11 : decode mb_J7_fill_53178 11 = .ok (.iload_n 2, 1) := by decide +kernel
theorem dd_J7_fill_53178_12 : decode mb_J7_fill_53178 12 = .ok (.iload_n 1, 1) := by decide +kernel
theorem dd_J7_fill_53178_13 : decode mb_J7_fill_53178 13 = .ok (.iastore, 1) := by decide +kernel
theorem dd_J7_fill_53178_14 : decode mb_J7_fill_53178 14 = .ok (.iinc 2 1, 3) := by decide +kernel
theorem dd_J7_fill_53178_17 : decode mb_J7_fill_53178 17 = .ok (.goto (-12), 3) := by decide +kernel
theorem dd_J7_fill_53178_20 : decode mb_J7_fill_53178 20 = .ok (.return_, 1) := by decide +kernel
theorem dd_J7_fill_d0a16_0 : decode mb_J7_fill_d0a16 0 = .ok (.iconst 0, 1) := by decide +kernel
theorem dd_J7_fill_d0a16_1 : decode mb_J7_fill_d0a16 1 = .ok (.istore_n 3, 1) := by decide +kernel
theorem dd_J7_fill_d0a16_2 : decode mb_J7_fill_d0a16 2 = .ok (.aload_n 0, 1) := by decide +kernel
theorem dd_J7_fill_d0a16_3 : decode mb_J7_fill_d0a16 3 = .ok (.arraylength, 1) := by decide +kernel
theorem dd_J7_fill_d0a16_4 : decode mb_J7_fill_d0a16 4 = .ok (.istore 4, 2) := by decide +kernel
theorem dd_J7_fill_d0a16_6 : decode mb_J7_fill_d0a16 6 = .ok (.iload_n 3, 1) := by decide +kernel
theorem dd_J7_fill_d0a16_7 : decode mb_J7_fill_d0a16 7 = .ok (.iload 4, 2) := by decide +kernel
theorem dd_J7_fill_d0a16_9 : decode mb_J7_fill_d0a16 9 = .ok (.if_icmp .ge 13, 3) := by decide +kernel
theorem dd_J7_fill_d0a16_12 : decode mb_J7_fill_d0a16 12 = .ok (.aload_n 0, 1) := by decide +kernel
theorem dd_J7_fill_d0a16_13 : decode mb_J7_fill_d0a16 13 = .ok (.iload_n 3, 1) := by decide +kernel
theorem dd_J7_fill_d0a16_14 : decode mb_J7_fill_d0a16 14 = .ok (.lload_n 1, 1) := by decide +kernel
theorem dd_J7_fill_d0a16_15 : decode mb_J7_fill_d0a16 15 = .ok (.lastore, 1) := by decide +kernel
theorem dd_J7_fill_d0a16_16 : decode mb_J7_fill_d0a16 16 = .ok (.iinc 3 1, 3) := by decide +kernel
theorem dd_J7_fill_d0a16_19 : decode mb_J7_fill_d0a16 19 = .ok (.goto (-13), 3) := by decide +kernel
theorem dd_J7_fill_d0a16_22 : decode mb_J7_fill_d0a16 22 = .ok (.return_, 1) := by decide +kernel
theorem dd_X0_add_0 : decode mb_X0_add 0 = .ok (.aload_n 0, 1) := by decide +kernel
theorem dd_X0_add_1 : decode mb_X0_add 1 = .ok (.getfield 9, 3) := by decide +kernel
theorem dd_X0_add_4 : decode mb_X0_add 4 = .ok (.aload_n 0, 1) := by decide +kernel
theorem dd_X0_add_5 : decode mb_X0_add 5 = .ok (.getfield 27, 3) := by decide +kernel
theorem dd_X0_add_8 : decode mb_X0_add 8 = .ok (.iload_n 1, 1) := by decide +kernel
theorem dd_X0_add_9 : decode mb_X0_add 9 = .ok (.iastore, 1) := by decide +kernel
theorem dd_X0_add_10 : decode mb_X0_add 10 = .ok (.aload_n 0, 1) := by decide +kernel
theorem dd_X0_add_11 : decode mb_X0_add 11 = .ok (.getfield 15, 3) := by decide +kernel
theorem dd_X0_add_14 : decode mb_X0_add 14 = .ok (.aload_n 0, 1) := by decide +kernel
theorem dd_X0_add_15 : decode mb_X0_add 15 = .ok (.getfield 27, 3) := by decide +kernel
theorem dd_X0_add_18 : decode mb_X0_add 18 = .ok (.iload_n 2, 1) := by decide +kernel
theorem dd_X0_add_19 : decode mb_X0_add 19 = .ok (.iastore, 1) := by decide +kernel
theorem dd_X0_add_20 : decode mb_X0_add 20 = .ok (.aload_n 0, 1) := by decide +kernel
theorem dd_X0_add_21 : decode mb_X0_add 21 = .ok (.getfield 18, 3) := by decide +kernel
theorem dd_X0_add_24 : decode mb_X0_add 24 = .ok (.aload_n 0, 1) := by decide +kernel
theorem dd_X0_add_25 : decode mb_X0_add 25 = .ok (.getfield 27, 3) := by decide +kernel
theorem dd_X0_add_28 : decode mb_X0_add 28 = .ok (.iload_n 3, 1) := by decide +kernel
theorem dd_X0_add_29 : decode mb_X0_add 29 = .ok (.iastore, 1) := by decide +kernel
theorem dd_X0_add_30 : decode mb_X0_add 30 = .ok (.aload_n 0, 1) := by decide +kernel
theorem dd_X0_add_31 : decode mb_X0_add 31 = .ok (.getfield 21, 3) := by decide +kernel
theorem dd_X0_add_34 : decode mb_X0_add 34 = .ok (.aload_n 0, 1) := by decide +kernel
theorem dd_X0_add_35 : decode mb_X0_add 35 = .ok (.getfield 27, 3) := by decide +kernel
theorem dd_X0_add_38 : decode mb_X0_add 38 = .ok (.iload 4, 2) := by decide +kernel
theorem dd_X0_add_40 : decode mb_X0_add 40 = .ok (.iastore, 1) := by decide +kernel
theorem dd_X0_add_41 : decode mb_X0_add 41 = .ok (.aload_n 0, 1) := by decide +kernel
theorem dd_X0_add_42 : decode mb_X0_add 42 = .ok (.getfield 24, 3) := by decide +kernel
theorem dd_X0_add_45 : decode mb_X0_add 45 = .ok (.aload_n 0, 1) := by decide +kernel
theorem dd_X0_add_46 : decode mb_X0_add 46 = .ok (.getfield 27, 3) := by decide +kernel
theorem dd_X0_add_49 : decode mb_X0_add 49 = .ok (.iconst 0, 1) := by decide +kernel
theorem dd_X0_add_50 : decode mb_X0_add 50 = .ok (.iastore, 1) := by decide +kernel
theorem dd_X0_add_51 : decode mb_X0_add 51 = .ok (.aload_n 0, 1) := by decide +kernel
theorem dd_X0_add_52 : decode mb_X0_add 52 = .ok (.dup, 1) := by decide +kernel
theorem dd_X0_add_53 : decode mb_X0_add 53 = .ok (.getfield 27, 3) := by decide +kernel
theorem dd_X0_add_56 : decode mb_X0_add 56 = .ok (.iconst 1, 1) := by decide +kernel
theorem dd_X0_add_57 : decode mb_X0_add 57 = .ok (.iadd, 1) := by decide +kernel
theorem dd_X0_add_58 : decode mb_X0_add 58 = .ok (.putfield 27, 3) := by decide +kernel
theorem dd_X0_add_61 : decode mb_X0_add 61 = .ok (.aload_n 0, 1) := by decide +kernel
theorem dd_X0_add_62 : decode mb_X0_add 62 = .ok (.getfield 27, 3) := by decide +kernel
theorem dd_X0_add_65 : decode mb_X0_add 65 = .ok (.iconst 1, 1) := by decide +kernel
theorem dd_X0_add_66 : decode mb_X0_add 66 = .ok (.isub, 1) := by decide +kernel
theorem dd_X0_add_67 : decode mb_X0_add 67 = .ok (.ireturn, 1) := by decide +kernel
theorem dd_X0_has_0 : decode mb_X0_has 0 = .ok (.iload_n 1, 1) := by decide +kernel
theorem dd_X0_has_1 : decode mb_X0_has 1 = .ok (.iconst 0, 1) := by decide +kernel
theorem dd_X0_has_2 : decode mb_X0_has 2 = .ok (.aload_n 0, 1) := by decide +kernel
theorem dd_X0_has_3 : decode mb_X0_has 3 = .ok (.getfield 27, 3) := by decide +kernel
theorem dd_X0_has_6 : decode mb_X0_has 6 = .ok (.iconst 1, 1) := by decide +kernel
theorem dd_X0_has_7 : decode mb_X0_has 7 = .ok (.isub, 1) := by decide +kernel
theorem dd_X0_has_8 : decode mb_X0_has 8 = .ok (.invokestatic 31, 3) := by decide +kernel
theorem dd_X0_has_11 : decode mb_X0_has 11 = .ok (.ireturn, 1) := by decide +kernel
theorem dd_X10_add_0 : decode mb_X10_add 0 = .ok (.aload_n 0, 1) := by decide +kernel
theorem dd_X10_add_1 : decode mb_X10_add 1 = .ok (.getfield 9, 3) := by decide +kernel
theorem dd_X10_add_4 : decode mb_X10_add 4 = .ok (.aload_n 0, 1) := by decide +kernel
theorem dd_X10_add_5 : decode mb_X10_add 5 = .ok (.getfield 30, 3) := by decide +kernel
theorem dd_X10_add_8 : decode mb_X10_add 8 = .ok (.iload_n 1, 1) := by decide +kernel
theorem dd_X10_add_9 : decode mb_X10_add 9 = .ok (.iastore, 1) := by decide +kernel
theorem dd_X10_add_10 : decode mb_X10_add 10 = .ok (.aload_n 0, 1) := by decide +kernel
theorem dd_X10_add_11 : decode mb_X10_add 11 = .ok (.getfield 15, 3) := by decide +kernel
theorem dd_X10_add_14 : decode mb_X10_add 14 = .ok (.aload_n 0, 1) := by decide +kernel
theorem dd_X10_add_15 : decode mb_X10_add 15 = .ok (.getfield 30, 3) := by decide +kernel
theorem dd_X10_add_18 : decode mb_X10_add 18 = .ok (.iload_n 2, 1) := by decide +kernel
theorem dd_X10_add_19 : decode mb_X10_add 19 = .ok (.iastore, 1) := by decide +kernel
theorem dd_X10_add_20 : decode mb_X10_add 20 = .ok (.aload_n 0, 1) := by decide +kernel
theorem dd_X10_add_21 : decode mb_X10_add 21 = .ok (.getfield 18, 3) := by decide +kernel
theorem dd_X10_add_24 : decode mb_X10_add 24 = .ok (.aload_n 0, 1) := by decide +kernel
theorem dd_X10_add_25 : decode mb_X10_add 25 = .ok (.getfield 30, 3) := by decide +kernel
theorem dd_X10_add_28 : decode mb_X10_add 28 = .ok (.iload_n 3, 1) := by decide +kernel
theorem dd_X10_add_29 : decode mb_X10_add 29 = .ok (.iastore, 1) := by decide +kernel
theorem dd_X10_add_30 : decode mb_X10_add 30 = .ok (.aload_n 0, 1) := by decide +kernel
theorem dd_X10_add_31 : decode mb_X10_add 31 = .ok (.getfield 21, 3) := by decide +kernel
theorem dd_X10_add_34 : decode mb_X10_add 34 = .ok (.aload_n 0, 1) := by decide +kernel
theorem dd_X10_add_35 : decode mb_X10_add 35 = .ok (.getfield 30, 3) := by decide +kernel
theorem dd_X10_add_38 : decode mb_X10_add 38 = .ok (.iconst (-1), 1) := by decide +kernel
theorem dd_X10_add_39 : decode mb_X10_add 39 = .ok (.iastore, 1) := by decide +kernel
theorem dd_X10_add_40 : decode mb_X10_add 40 = .ok (.aload_n 0, 1) := by decide +kernel
theorem dd_X10_add_41 : decode mb_X10_add 41 = .ok (.getfield 24, 3) := by decide +kernel
theorem dd_X10_add_44 : decode mb_X10_add 44 = .ok (.aload_n 0, 1) := by decide +kernel
theorem dd_X10_add_45 : decode mb_X10_add 45 = .ok (.getfield 30, 3) := by decide +kernel
theorem dd_X10_add_48 : decode mb_X10_add 48 = .ok (.iconst (-1), 1) := by decide +kernel
theorem dd_X10_add_49 : decode mb_X10_add 49 = .ok (.iastore, 1) := by decide +kernel
theorem dd_X10_add_50 : decode mb_X10_add 50 = .ok (.aload_n 0, 1) := by decide +kernel
theorem dd_X10_add_51 : decode mb_X10_add 51 = .ok (.getfield 27, 3) := by decide +kernel
theorem dd_X10_add_54 : decode mb_X10_add 54 = .ok (.aload_n 0, 1) := by decide +kernel
theorem dd_X10_add_55 : decode mb_X10_add 55 = .ok (.getfield 30, 3) := by decide +kernel
theorem dd_X10_add_58 : decode mb_X10_add 58 = .ok (.iconst (-1), 1) := by decide +kernel
theorem dd_X10_add_59 : decode mb_X10_add 59 = .ok (.iastore, 1) := by decide +kernel
theorem dd_X10_add_60 : decode mb_X10_add 60 = .ok (.aload_n 0, 1) := by decide +kernel
theorem dd_X10_add_61 : decode mb_X10_add 61 = .ok (.dup, 1) := by decide +kernel
theorem dd_X10_add_62 : decode mb_X10_add 62 = .ok (.getfield 30, 3) := by decide +kernel
theorem dd_X10_add_65 : decode mb_X10_add 65 = .ok (.iconst 1, 1) := by decide +kernel
theorem dd_X10_add_66 : decode mb_X10_add 66 = .ok (.iadd, 1) := by decide +kernel
theorem dd_X10_add_67 : decode mb_X10_add 67 = .ok (.putfield 30, 3) := by decide +kernel
theorem dd_X10_add_70 : decode mb_X10_add 70 = .ok (.aload_n 0, 1) := by decide +kernel
theorem dd_X10_add_71 : decode mb_X10_add 71 = .ok (.getfield 30, 3) := by decide +kernel
theorem dd_X10_add_74 : decode mb_X10_add 74 = .ok (.iconst 1, 1) := by decide +kernel
theorem dd_X10_add_75 : decode mb_X10_add 75 = .ok (.isub, 1) := by decide +kernel
theorem dd_X10_add_76 : decode mb_X10_add 76 = .ok (.ireturn, 1) := by decide +kernel
theorem dd_X10_countLeft_0 : decode mb_X10_countLeft 0 = .ok (.iconst 0, 1) := by decide +kernel
theorem dd_X10_countLeft_1 : decode mb_X10_countLeft 1 = .ok (.istore_n 1, 1) := by decide +kernel
theorem dd_X10_countLeft_2 : decode mb_X10_countLeft 2 = .ok (.iconst 0, 1) := by decide +kernel
theorem dd_X10_countLeft_3 : decode mb_X10_countLeft 3 = .ok (.istore_n 2, 1) := by decide +kernel
theorem dd_X10_countLeft_4 : decode mb_X10_countLeft 4 = .ok (.iload_n 2, 1) := by decide +kernel
theorem dd_X10_countLeft_5 : decode mb_X10_countLeft 5 = .ok (.aload_n 0, 1) := by decide +kernel
theorem dd_X10_countLeft_6 : decode mb_X10_countLeft 6 = .ok (.getfield 30, 3) := by decide +kernel
theorem dd_X10_countLeft_9 : decode mb_X10_countLeft 9 = .ok (.if_icmp .ge 20, 3) := by decide +kernel
theorem dd_X10_countLeft_29 : decode mb_X10_countLeft 29 = .ok (.iload_n 1, 1) := by decide +kernel
theorem dd_X10_countLeft_30 : decode mb_X10_countLeft 30 = .ok (.ireturn, 1) := by decide +kernel
theorem dd_X10_has_0 : decode mb_X10_has 0 = .ok (.iload_n 1, 1) := by decide +kernel
theorem dd_X10_has_1 : decode mb_X10_has 1 = .ok (.iconst 0, 1) := by decide +kernel
theorem dd_X10_has_2 : decode mb_X10_has 2 = .ok (.aload_n 0, 1) := by decide +kernel
theorem dd_X10_has_3 : decode mb_X10_has 3 = .ok (.getfield 30, 3) := by decide +kernel
theorem dd_X10_has_6 : decode mb_X10_has 6 = .ok (.iconst 1, 1) := by decide +kernel
theorem dd_X10_has_7 : decode mb_X10_has 7 = .ok (.isub, 1) := by decide +kernel
theorem dd_X10_has_8 : decode mb_X10_has 8 = .ok (.invokestatic 37, 3) := by decide +kernel
theorem dd_X10_has_11 : decode mb_X10_has 11 = .ok (.ireturn, 1) := by decide +kernel
theorem dd_X10_worthLeft_0 : decode mb_X10_worthLeft 0 = .ok (.iconst 0, 1) := by decide +kernel
theorem dd_X10_worthLeft_1 : decode mb_X10_worthLeft 1 = .ok (.istore_n 2, 1) := by decide +kernel
theorem dd_X10_worthLeft_2 : decode mb_X10_worthLeft 2 = .ok (.iconst 0, 1) := by decide +kernel
theorem dd_X10_worthLeft_3 : decode mb_X10_worthLeft 3 = .ok (.istore_n 3, 1) := by decide +kernel
theorem dd_X10_worthLeft_4 : decode mb_X10_worthLeft 4 = .ok (.iload_n 3, 1) := by decide +kernel
theorem dd_X10_worthLeft_5 : decode mb_X10_worthLeft 5 = .ok (.aload_n 0, 1) := by decide +kernel
theorem dd_X10_worthLeft_6 : decode mb_X10_worthLeft 6 = .ok (.getfield 30, 3) := by decide +kernel
theorem dd_X10_worthLeft_9 : decode mb_X10_worthLeft 9 = .ok (.if_icmp .ge 34, 3) := by decide +kernel
theorem dd_X10_worthLeft_43 : decode mb_X10_worthLeft 43 = .ok (.iload_n 2, 1) := by decide +kernel
theorem dd_X10_worthLeft_44 : decode mb_X10_worthLeft 44 = .ok (.ireturn, 1) := by decide +kernel
theorem dd_X11_back_0 : decode mb_X11_back 0 = .ok (.aload_n 0, 1) := by decide +kernel
theorem dd_X11_back_1 : decode mb_X11_back 1 = .ok (.getfield 50, 3) := by decide +kernel
theorem dd_X11_back_4 : decode mb_X11_back 4 = .ok (.ifCond .ne 10, 3) := by decide +kernel
theorem dd_X11_back_7 : decode mb_X11_back 7 = .ok (.aload_n 0, 1) := by decide +kernel
theorem dd_X11_back_8 : decode mb_X11_back 8 = .ok (.bipush (-5), 2) := by decide +kernel
theorem dd_X11_back_10 : decode mb_X11_back 10 = .ok (.invokevirtual 63, 3) := by decide +kernel
theorem dd_X11_back_13 : decode mb_X11_back 13 = .ok (.ireturn, 1) := by decide +kernel
theorem dd_X11_buyer_0 : decode mb_X11_buyer 0 = .ok (.iload_n 1, 1) := by decide +kernel
theorem dd_X11_buyer_1 : decode mb_X11_buyer 1 = .ok (.invokestatic 216, 3) := by decide +kernel
theorem dd_X11_buyer_4 : decode mb_X11_buyer 4 = .ok (.ifCond .eq 33, 3) := by decide +kernel
theorem dd_X11_buyer_7 : decode mb_X11_buyer 7 = .ok (.iload_n 2, 1) := by decide +kernel
theorem dd_X11_buyer_8 : decode mb_X11_buyer 8 = .ok (.iconst 0, 1) := by decide +kernel
theorem dd_X11_buyer_9 : decode mb_X11_buyer 9 = .ok (.sipush 9999, 3) := by decide +kernel
theorem dd_X11_buyer_12 : decode mb_X11_buyer 12 = .ok (.invokestatic 59, 3) := by decide +kernel
theorem dd_X11_buyer_15 : decode mb_X11_buyer 15 = .ok (.ifCond .eq 22, 3) := by decide +kernel
theorem dd_X11_buyer_18 : decode mb_X11_buyer 18 = .ok (.iload_n 3, 1) := by decide +kernel
theorem dd_X11_buyer_19 : decode mb_X11_buyer 19 = .ok (.invokestatic 165, 3) := by decide +kernel
theorem dd_X11_buyer_22 : decode mb_X11_buyer 22 = .ok (.ifCond .eq 15, 3) := by decide +kernel
theorem dd_X11_buyer_25 : decode mb_X11_buyer 25 = .ok (.iload 4, 2) := by decide +kernel
theorem dd_X11_buyer_27 : decode mb_X11_buyer 27 = .ok (.iconst 0, 1) := by decide +kernel
theorem dd_X11_buyer_28 : decode mb_X11_buyer 28 = .ok (.sipush 300, 3) := by decide +kernel
theorem dd_X11_buyer_31 : decode mb_X11_buyer 31 = .ok (.invokestatic 59, 3) := by decide +kernel
theorem dd_X11_buyer_34 : decode mb_X11_buyer 34 = .ok (.ifCond .ne 10, 3) := by decide +kernel
theorem dd_X11_buyer_37 : decode mb_X11_buyer 37 = .ok (.aload_n 0, 1) := by decide +kernel
theorem dd_X11_buyer_38 : decode mb_X11_buyer 38 = .ok (.bipush (-2), 2) := by decide +kernel
theorem dd_X11_buyer_40 : decode mb_X11_buyer 40 = .ok (.invokevirtual 63, 3) := by decide +kernel
theorem dd_X11_buyer_43 : decode mb_X11_buyer 43 = .ok (.ireturn, 1) := by decide +kernel
theorem dd_X11_buyer_44 : decode mb_X11_buyer 44 = .ok (.aload_n 0, 1) := by decide +kernel
theorem dd_X11_buyer_45 : decode mb_X11_buyer 45 = .ok (.getfield 29, 3) := by decide +kernel
theorem dd_X11_buyer_48 : decode mb_X11_buyer 48 = .ok (.getfield 219, 3) := by decide +kernel
theorem dd_X11_buyer_51 : decode mb_X11_buyer 51 = .ok (.getfield 223, 3) := by decide +kernel
theorem dd_X11_buyer_54 : decode mb_X11_buyer 54 = .ok (.bipush 12, 2) := by decide +kernel
theorem dd_X11_buyer_56 : decode mb_X11_buyer 56 = .ok (.if_icmp .lt 10, 3) := by decide +kernel
theorem dd_X11_buyer_66 : decode mb_X11_buyer 66 = .ok (.aload_n 0, 1) := by decide +kernel
theorem dd_X11_buyer_67 : decode mb_X11_buyer 67 = .ok (.getfield 29, 3) := by decide +kernel
theorem dd_X11_buyer_70 : decode mb_X11_buyer 70 = .ok (.getfield 219, 3) := by decide +kernel
theorem dd_X11_buyer_73 : decode mb_X11_buyer 73 = .ok (.iload_n 1, 1) := by decide +kernel
theorem dd_X11_buyer_74 : decode mb_X11_buyer 74 = .ok (.iload_n 2, 1) := by decide +kernel
theorem dd_X11_buyer_75 : decode mb_X11_buyer 75 = .ok (.iload_n 3, 1) := by decide +kernel
theorem dd_X11_buyer_76 : decode mb_X11_buyer 76 = .ok (.iload 4, 2) := by decide +kernel
theorem dd_X11_buyer_78 : decode mb_X11_buyer 78 = .ok (.invokevirtual 226, 3) := by decide +kernel
theorem dd_X11_buyer_81 : decode mb_X11_buyer 81 = .ok (.ireturn, 1) := by decide +kernel
theorem dd_X11_buyerOf_0 : decode mb_X11_buyerOf 0 = .ok (.aload_n 0, 1) := by decide +kernel
theorem dd_X11_buyerOf_1 : decode mb_X11_buyerOf 1 = .ok (.getfield 29, 3) := by decide +kernel
theorem dd_X11_buyerOf_4 : decode mb_X11_buyerOf 4 = .ok (.getfield 219, 3) := by decide +kernel
theorem dd_X11_buyerOf_7 : decode mb_X11_buyerOf 7 = .ok (.iload_n 1, 1) := by decide +kernel
theorem dd_X11_buyerOf_8 : decode mb_X11_buyerOf 8 = .ok (.invokevirtual 229, 3) := by decide +kernel
theorem dd_X11_buyerOf_11 : decode mb_X11_buyerOf 11 = .ok (.ifCond .ne 10, 3) := by decide +kernel
theorem dd_X11_buyerOf_14 : decode mb_X11_buyerOf 14 = .ok (.aload_n 0, 1) := by decide +kernel
theorem dd_X11_buyerOf_15 : decode mb_X11_buyerOf 15 = .ok (.bipush (-2), 2) := by decide +kernel
theorem dd_X11_buyerOf_17 : decode mb_X11_buyerOf 17 = .ok (.invokevirtual 63, 3) := by decide +kernel
theorem dd_X11_buyerOf_20 : decode mb_X11_buyerOf 20 = .ok (.ireturn, 1) := by decide +kernel
theorem dd_X11_chip_0 : decode mb_X11_chip 0 = .ok (.aload_n 0, 1) := by decide +kernel
theorem dd_X11_chip_1 : decode mb_X11_chip 1 = .ok (.getfield 29, 3) := by decide +kernel
theorem dd_X11_chip_4 : decode mb_X11_chip 4 = .ok (.getfield 113, 3) := by decide +kernel
theorem dd_X11_chip_7 : decode mb_X11_chip 7 = .ok (.iload_n 1, 1) := by decide +kernel
theorem dd_X11_chip_8 : decode mb_X11_chip 8 = .ok (.invokevirtual 117, 3) := by decide +kernel
theorem dd_X11_chip_11 : decode mb_X11_chip 11 = .ok (.ifCond .eq 13, 3) := by decide +kernel
theorem dd_X11_chip_24 : decode mb_X11_chip 24 = .ok (.aload_n 0, 1) := by decide +kernel
theorem dd_X11_chip_25 : decode mb_X11_chip 25 = .ok (.bipush (-2), 2) := by decide +kernel
theorem dd_X11_chip_27 : decode mb_X11_chip 27 = .ok (.invokevirtual 63, 3) := by decide +kernel
theorem dd_X11_chip_30 : decode mb_X11_chip 30 = .ok (.ireturn, 1) := by decide +kernel
theorem dd_X11_copy_0 : decode mb_X11_copy 0 = .ok (.iload_n 1, 1) := by decide +kernel
theorem dd_X11_copy_1 : decode mb_X11_copy 1 = .ok (.invokestatic 55, 3) := by decide +kernel
theorem dd_X11_copy_4 : decode mb_X11_copy 4 = .ok (.ifCond .eq 10, 3) := by decide +kernel
theorem dd_X11_copy_7 : decode mb_X11_copy 7 = .ok (.iload_n 2, 1) := by decide +kernel
theorem dd_X11_copy_8 : decode mb_X11_copy 8 = .ok (.invokestatic 55, 3) := by decide +kernel
theorem dd_X11_copy_11 : decode mb_X11_copy 11 = .ok (.ifCond .ne 10, 3) := by decide +kernel
theorem dd_X11_copy_14 : decode mb_X11_copy 14 = .ok (.aload_n 0, 1) := by decide +kernel
theorem dd_X11_copy_15 : decode mb_X11_copy 15 = .ok (.bipush (-2), 2) := by decide +kernel
theorem dd_X11_copy_17 : decode mb_X11_copy 17 = .ok (.invokevirtual 63, 3) := by decide +kernel
theorem dd_X11_copy_20 : decode mb_X11_copy 20 = .ok (.ireturn, 1) := by decide +kernel
theorem dd_X11_copy_21 : decode mb_X11_copy 21 = .ok (.aload_n 0, 1) := by decide +kernel
theorem dd_X11_copy_22 : decode mb_X11_copy 22 = .ok (.getfield 11, 3) := by decide +kernel
theorem dd_X11_copy_25 : decode mb_X11_copy 25 = .ok (.iload_n 1, 1) := by decide +kernel
theorem dd_X11_copy_26 : decode mb_X11_copy 26 = .ok (.aaload, 1) := by decide +kernel
theorem dd_X11_copy_27 : decode mb_X11_copy 27 = .ok (.astore 6, 2) := by decide +kernel
theorem dd_X11_copy_29 : decode mb_X11_copy 29 = .ok (.aload_n 0, 1) := by decide +kernel
theorem dd_X11_copy_30 : decode mb_X11_copy 30 = .ok (.getfield 11, 3) := by decide +kernel
theorem dd_X11_copy_33 : decode mb_X11_copy 33 = .ok (.iload_n 2, 1) := by decide +kernel
theorem dd_X11_copy_34 : decode mb_X11_copy 34 = .ok (.aaload, 1) := by decide +kernel
theorem dd_X11_copy_35 : decode mb_X11_copy 35 = .ok (.astore 7, 2) := by decide +kernel
theorem dd_X11_copy_37 : decode mb_X11_copy 37 = .ok (.aload 6, 2) := by decide +kernel
theorem dd_X11_copy_39 : decode mb_X11_copy 39 = .ok (.invokevirtual 82, 3) := by decide +kernel
theorem dd_X11_copy_42 : decode mb_X11_copy 42 = .ok (.ifCond .ne 11, 3) := by decide +kernel
theorem dd_X11_copy_45 : decode mb_X11_copy 45 = .ok (.aload 7, 2) := by decide +kernel
theorem dd_X11_copy_47 : decode mb_X11_copy 47 = .ok (.invokevirtual 82, 3) := by decide +kernel
theorem dd_X11_copy_50 : decode mb_X11_copy 50 = .ok (.ifCond .eq 10, 3) := by decide +kernel
theorem dd_X11_copy_60 : decode mb_X11_copy 60 = .ok (.aload 6, 2) := by decide +kernel
theorem dd_X11_copy_62 : decode mb_X11_copy 62 = .ok (.invokevirtual 86, 3) := by decide +kernel
theorem dd_X11_copy_65 : decode mb_X11_copy 65 = .ok (.ifCond .eq 31, 3) := by decide +kernel
theorem dd_X11_copy_96 : decode mb_X11_copy 96 = .ok (.aload 6, 2) := by decide +kernel
theorem dd_X11_copy_98 : decode mb_X11_copy 98 = .ok (.invokevirtual 92, 3) := by decide +kernel
theorem dd_X11_copy_101 : decode mb_X11_copy 101 = .ok (.ifCond .ne 11, 3) := by decide +kernel
theorem dd_X11_copy_112 : decode mb_X11_copy 112 = .ok (.aload_n 0, 1) := by decide +kernel
theorem dd_X11_copy_113 : decode mb_X11_copy 113 = .ok (.bipush (-4), 2) := by decide +kernel
theorem dd_X11_copy_115 : decode mb_X11_copy 115 = .ok (.invokevirtual 63, 3) := by decide +kernel
theorem dd_X11_copy_118 : decode mb_X11_copy 118 = .ok (.ireturn, 1) := by decide +kernel
theorem dd_X11_costs_0 : decode mb_X11_costs 0 = .ok (.aload_n 0, 1) := by decide +kernel
theorem dd_X11_costs_1 : decode mb_X11_costs 1 = .ok (.getfield 29, 3) := by decide +kernel
theorem dd_X11_costs_4 : decode mb_X11_costs 4 = .ok (.getfield 113, 3) := by decide +kernel
theorem dd_X11_costs_7 : decode mb_X11_costs 7 = .ok (.iload_n 1, 1) := by decide +kernel
theorem dd_X11_costs_8 : decode mb_X11_costs 8 = .ok (.invokevirtual 117, 3) := by decide +kernel
theorem dd_X11_costs_11 : decode mb_X11_costs 11 = .ok (.ifCond .eq 10, 3) := by decide +kernel
theorem dd_X11_costs_21 : decode mb_X11_costs 21 = .ok (.aload_n 0, 1) := by decide +kernel
theorem dd_X11_costs_22 : decode mb_X11_costs 22 = .ok (.bipush (-2), 2) := by decide +kernel
theorem dd_X11_costs_24 : decode mb_X11_costs 24 = .ok (.invokevirtual 63, 3) := by decide +kernel
theorem dd_X11_costs_27 : decode mb_X11_costs 27 = .ok (.ireturn, 1) := by decide +kernel
theorem dd_X11_day_0 : decode mb_X11_day 0 = .ok (.iload_n 1, 1) := by decide +kernel
theorem dd_X11_day_1 : decode mb_X11_day 1 = .ok (.tableswitch 80 0 3 #[31, 39, 47, 69], 31) := by decide +kernel
theorem dd_X11_day_32 : decode mb_X11_day 32 = .ok (.aload_n 0, 1) := by decide +kernel
theorem dd_X11_day_33 : decode mb_X11_day 33 = .ok (.getfield 29, 3) := by decide +kernel
theorem dd_X11_day_36 : decode mb_X11_day 36 = .ok (.getfield 282, 3) := by decide +kernel
theorem dd_X11_day_39 : decode mb_X11_day 39 = .ok (.ireturn, 1) := by decide +kernel
theorem dd_X11_day_40 : decode mb_X11_day 40 = .ok (.aload_n 0, 1) := by decide +kernel
theorem dd_X11_day_41 : decode mb_X11_day 41 = .ok (.getfield 29, 3) := by decide +kernel
theorem dd_X11_day_44 : decode mb_X11_day 44 = .ok (.getfield 293, 3) := by decide +kernel
theorem dd_X11_day_47 : decode mb_X11_day 47 = .ok (.ireturn, 1) := by decide +kernel
theorem dd_X11_day_48 : decode mb_X11_day 48 = .ok (.aload_n 0, 1) := by decide +kernel
theorem dd_X11_day_49 : decode mb_X11_day 49 = .ok (.getfield 29, 3) := by decide +kernel
theorem dd_X11_day_52 : decode mb_X11_day 52 = .ok (.getfield 113, 3) := by decide +kernel
theorem dd_X11_day_55 : decode mb_X11_day 55 = .ok (.getfield 132, 3) := by decide +kernel
theorem dd_X11_day_58 : decode mb_X11_day 58 = .ok (.aload_n 0, 1) := by decide +kernel
theorem dd_X11_day_59 : decode mb_X11_day 59 = .ok (.getfield 29, 3) := by decide +kernel
theorem dd_X11_day_62 : decode mb_X11_day 62 = .ok (.getfield 113, 3) := by decide +kernel
theorem dd_X11_day_65 : decode mb_X11_day 65 = .ok (.invokevirtual 296, 3) := by decide +kernel
theorem dd_X11_day_68 : decode mb_X11_day 68 = .ok (.isub, 1) := by decide +kernel
theorem dd_X11_day_69 : decode mb_X11_day 69 = .ok (.ireturn, 1) := by decide +kernel
theorem dd_X11_day_70 : decode mb_X11_day 70 = .ok (.aload_n 0, 1) := by decide +kernel
theorem dd_X11_day_71 : decode mb_X11_day 71 = .ok (.getfield 29, 3) := by decide +kernel
theorem dd_X11_day_74 : decode mb_X11_day 74 = .ok (.getfield 113, 3) := by decide +kernel
theorem dd_X11_day_77 : decode mb_X11_day 77 = .ok (.invokevirtual 296, 3) := by decide +kernel
theorem dd_X11_day_80 : decode mb_X11_day 80 = .ok (.ireturn, 1) := by decide +kernel
theorem dd_X11_day_81 : decode mb_X11_day 81 = .ok (.aload_n 0, 1) := by decide +kernel
theorem dd_X11_day_82 : decode mb_X11_day 82 = .ok (.bipush (-2), 2) := by decide +kernel
theorem dd_X11_day_84 : decode mb_X11_day 84 = .ok (.invokevirtual 63, 3) := by decide +kernel
theorem dd_X11_day_87 : decode mb_X11_day 87 = .ok (.ireturn, 1) := by decide +kernel
theorem dd_X11_element_0 : decode mb_X11_element 0 = .ok (.iload_n 1, 1) := by decide +kernel
theorem dd_X11_element_1 : decode mb_X11_element 1 = .ok (.invokestatic 55, 3) := by decide +kernel
theorem dd_X11_element_4 : decode mb_X11_element 4 = .ok (.ifCond .eq 16, 3) := by decide +kernel
theorem dd_X11_element_7 : decode mb_X11_element 7 = .ok (.aload_n 0, 1) := by decide +kernel
theorem dd_X11_element_8 : decode mb_X11_element 8 = .ok (.getfield 11, 3) := by decide +kernel
theorem dd_X11_element_11 : decode mb_X11_element 11 = .ok (.iload_n 1, 1) := by decide +kernel
theorem dd_X11_element_12 : decode mb_X11_element 12 = .ok (.aaload, 1) := by decide +kernel
theorem dd_X11_element_13 : decode mb_X11_element 13 = .ok (.iload_n 2, 1) := by decide +kernel
theorem dd_X11_element_14 : decode mb_X11_element 14 = .ok (.invokevirtual 109, 3) := by decide +kernel
theorem dd_X11_element_17 : decode mb_X11_element 17 = .ok (.goto 4, 3) := by decide +kernel
theorem dd_X11_element_20 : decode mb_X11_element 20 = .ok (.lconst 0, 1) := by decide +kernel
theorem dd_X11_element_21 : decode mb_X11_element 21 = .ok (.lreturn, 1) := by decide +kernel
theorem dd_X11_goes_0 : decode mb_X11_goes 0 = .ok (.aload_n 0, 1) := by decide +kernel
theorem dd_X11_goes_1 : decode mb_X11_goes 1 = .ok (.getfield 29, 3) := by decide +kernel
theorem dd_X11_goes_4 : decode mb_X11_goes 4 = .ok (.getfield 168, 3) := by decide +kernel
theorem dd_X11_goes_7 : decode mb_X11_goes 7 = .ok (.iload_n 1, 1) := by decide +kernel
theorem dd_X11_goes_8 : decode mb_X11_goes 8 = .ok (.invokevirtual 177, 3) := by decide +kernel
theorem dd_X11_goes_11 : decode mb_X11_goes 11 = .ok (.ifCond .eq 22, 3) := by decide +kernel
theorem dd_X11_goes_33 : decode mb_X11_goes 33 = .ok (.aload_n 0, 1) := by decide +kernel
theorem dd_X11_goes_34 : decode mb_X11_goes 34 = .ok (.bipush (-2), 2) := by decide +kernel
theorem dd_X11_goes_36 : decode mb_X11_goes 36 = .ok (.invokevirtual 63, 3) := by decide +kernel
theorem dd_X11_goes_39 : decode mb_X11_goes 39 = .ok (.ireturn, 1) := by decide +kernel
theorem dd_X11_hall_0 : decode mb_X11_hall 0 = .ok (.iload_n 1, 1) := by decide +kernel
theorem dd_X11_hall_1 : decode mb_X11_hall 1 = .ok (.iconst 0, 1) := by decide +kernel
theorem dd_X11_hall_2 : decode mb_X11_hall 2 = .ok (.iconst 2, 1) := by decide +kernel
theorem dd_X11_hall_3 : decode mb_X11_hall 3 = .ok (.invokestatic 59, 3) := by decide +kernel
theorem dd_X11_hall_6 : decode mb_X11_hall 6 = .ok (.ifCond .eq 17, 3) := by decide +kernel
theorem dd_X11_hall_9 : decode mb_X11_hall 9 = .ok (.aload_n 0, 1) := by decide +kernel
theorem dd_X11_hall_10 : decode mb_X11_hall 10 = .ok (.getfield 29, 3) := by decide +kernel
theorem dd_X11_hall_13 : decode mb_X11_hall 13 = .ok (.getfield 113, 3) := by decide +kernel
theorem dd_X11_hall_16 : decode mb_X11_hall 16 = .ok (.iload_n 2, 1) := by decide +kernel
theorem dd_X11_hall_17 : decode mb_X11_hall 17 = .ok (.invokevirtual 117, 3) := by decide +kernel
theorem dd_X11_hall_20 : decode mb_X11_hall 20 = .ok (.ifCond .ne 10, 3) := by decide +kernel
theorem dd_X11_hall_23 : decode mb_X11_hall 23 = .ok (.aload_n 0, 1) := by decide +kernel
theorem dd_X11_hall_24 : decode mb_X11_hall 24 = .ok (.bipush (-2), 2) := by decide +kernel
theorem dd_X11_hall_26 : decode mb_X11_hall 26 = .ok (.invokevirtual 63, 3) := by decide +kernel
theorem dd_X11_hall_29 : decode mb_X11_hall 29 = .ok (.ireturn, 1) := by decide +kernel
theorem dd_X11_holds_0 : decode mb_X11_holds 0 = .ok (.iload_n 1, 1) := by decide +kernel
theorem dd_X11_holds_1 : decode mb_X11_holds 1 = .ok (.invokestatic 55, 3) := by decide +kernel
theorem dd_X11_holds_4 : decode mb_X11_holds 4 = .ok (.ifCond .eq 15, 3) := by decide +kernel
theorem dd_X11_holds_7 : decode mb_X11_holds 7 = .ok (.aload_n 0, 1) := by decide +kernel
theorem dd_X11_holds_8 : decode mb_X11_holds 8 = .ok (.getfield 11, 3) := by decide +kernel
theorem dd_X11_holds_11 : decode mb_X11_holds 11 = .ok (.iload_n 1, 1) := by decide +kernel
theorem dd_X11_holds_12 : decode mb_X11_holds 12 = .ok (.aaload, 1) := by decide +kernel
theorem dd_X11_holds_13 : decode mb_X11_holds 13 = .ok (.getfield 89, 3) := by decide +kernel
theorem dd_X11_holds_16 : decode mb_X11_holds 16 = .ok (.goto 4, 3) := by decide +kernel
theorem dd_X11_holds_19 : decode mb_X11_holds 19 = .ok (.iconst (-1), 1) := by decide +kernel
theorem dd_X11_holds_20 : decode mb_X11_holds 20 = .ok (.ireturn, 1) := by decide +kernel
theorem dd_X11_isHour_0 : decode mb_X11_isHour 0 = .ok (.iload_n 0, 1) := by decide +kernel
theorem dd_X11_isHour_1 : decode mb_X11_isHour 1 = .ok (.iconst 0, 1) := by decide +kernel
theorem dd_X11_isHour_2 : decode mb_X11_isHour 2 = .ok (.bipush 11, 2) := by decide +kernel
theorem dd_X11_isHour_4 : decode mb_X11_isHour 4 = .ok (.invokestatic 59, 3) := by decide +kernel
theorem dd_X11_isHour_7 : decode mb_X11_isHour 7 = .ok (.ireturn, 1) := by decide +kernel
theorem dd_X11_isKind_0 : decode mb_X11_isKind 0 = .ok (.iload_n 0, 1) := by decide +kernel
theorem dd_X11_isKind_1 : decode mb_X11_isKind 1 = .ok (.iconst 0, 1) := by decide +kernel
theorem dd_X11_isKind_2 : decode mb_X11_isKind 2 = .ok (.iconst 5, 1) := by decide +kernel
theorem dd_X11_isKind_3 : decode mb_X11_isKind 3 = .ok (.invokestatic 59, 3) := by decide +kernel
theorem dd_X11_isKind_6 : decode mb_X11_isKind 6 = .ok (.ireturn, 1) := by decide +kernel
theorem dd_X11_isKinds_0 : decode mb_X11_isKinds 0 = .ok (.iload_n 0, 1) := by decide +kernel
theorem dd_X11_isKinds_1 : decode mb_X11_isKinds 1 = .ok (.iconst 0, 1) := by decide +kernel
theorem dd_X11_isKinds_2 : decode mb_X11_isKinds 2 = .ok (.bipush 63, 2) := by decide +kernel
theorem dd_X11_isKinds_4 : decode mb_X11_isKinds 4 = .ok (.invokestatic 59, 3) := by decide +kernel
theorem dd_X11_isKinds_7 : decode mb_X11_isKinds 7 = .ok (.ireturn, 1) := by decide +kernel
theorem dd_X11_isPerson_0 : decode mb_X11_isPerson 0 = .ok (.iload_n 0, 1) := by decide +kernel
theorem dd_X11_isPerson_1 : decode mb_X11_isPerson 1 = .ok (.iconst 0, 1) := by decide +kernel
theorem dd_X11_isPerson_2 : decode mb_X11_isPerson 2 = .ok (.bipush 15, 2) := by decide +kernel
theorem dd_X11_isPerson_4 : decode mb_X11_isPerson 4 = .ok (.invokestatic 59, 3) := by decide +kernel
theorem dd_X11_isPerson_7 : decode mb_X11_isPerson 7 = .ok (.ireturn, 1) := by decide +kernel
theorem dd_X11_isPersonOrNone_0 : decode mb_X11_isPersonOrNone 0 = .ok (.iload_n 0, 1) := by decide +kernel
theorem dd_X11_isPersonOrNone_1 : decode mb_X11_isPersonOrNone 1 = .ok (.iconst (-1), 1) := by decide +kernel
theorem dd_X11_isPersonOrNone_2 : decode mb_X11_isPersonOrNone 2 = .ok (.if_icmp .eq 10, 3) := by decide +kernel
theorem dd_X11_isPersonOrNone_5 : decode mb_X11_isPersonOrNone 5 = .ok (.iload_n 0, 1) := by decide +kernel
theorem dd_X11_isPersonOrNone_6 : decode mb_X11_isPersonOrNone 6 = .ok (.invokestatic 339, 3) := by decide +kernel
theorem dd_X11_isPersonOrNone_9 : decode mb_X11_isPersonOrNone 9 = .ok (.ifCond .eq 7, 3) := by decide +kernel
theorem dd_X11_isPersonOrNone_12 : decode mb_X11_isPersonOrNone 12 = .ok (.iconst 1, 1) := by decide +kernel
theorem dd_X11_isPersonOrNone_13 : decode mb_X11_isPersonOrNone 13 = .ok (.goto 4, 3) := by decide +kernel
theorem dd_X11_isPersonOrNone_16 : decode mb_X11_isPersonOrNone 16 = .ok (.iconst 0, 1) := by decide +kernel
theorem dd_X11_isPersonOrNone_17 : decode mb_X11_isPersonOrNone 17 = .ok (.ireturn, 1) := by decide +kernel
theorem dd_X11_isShelf_0 : decode mb_X11_isShelf 0 = .ok (.iload_n 0, 1) := by decide +kernel
theorem dd_X11_isShelf_1 : decode mb_X11_isShelf 1 = .ok (.iconst 0, 1) := by decide +kernel
theorem dd_X11_isShelf_2 : decode mb_X11_isShelf 2 = .ok (.bipush 7, 2) := by decide +kernel
theorem dd_X11_isShelf_4 : decode mb_X11_isShelf 4 = .ok (.invokestatic 59, 3) := by decide +kernel
theorem dd_X11_isShelf_7 : decode mb_X11_isShelf 7 = .ok (.ireturn, 1) := by decide +kernel
theorem dd_X11_judge_0 : decode mb_X11_judge 0 = .ok (.aload_n 0, 1) := by decide +kernel
theorem dd_X11_judge_1 : decode mb_X11_judge 1 = .ok (.iload_n 1, 1) := by decide +kernel
theorem dd_X11_judge_2 : decode mb_X11_judge 2 = .ok (.invokevirtual 71, 3) := by decide +kernel
theorem dd_X11_judge_5 : decode mb_X11_judge 5 = .ok (.istore_n 2, 1) := by decide +kernel
theorem dd_X11_judge_6 : decode mb_X11_judge 6 = .ok (.iload_n 2, 1) := by decide +kernel
theorem dd_X11_judge_7 : decode mb_X11_judge 7 = .ok (.ifCond .eq 9, 3) := by decide +kernel
theorem dd_X11_judge_10 : decode mb_X11_judge 10 = .ok (.aload_n 0, 1) := by decide +kernel
theorem dd_X11_judge_11 : decode mb_X11_judge 11 = .ok (.iload_n 2, 1) := by decide +kernel
theorem dd_X11_judge_12 : decode mb_X11_judge 12 = .ok (.invokevirtual 63, 3) := by decide +kernel
theorem dd_X11_judge_15 : decode mb_X11_judge 15 = .ok (.ireturn, 1) := by decide +kernel
theorem dd_X11_lady_0 : decode mb_X11_lady 0 = .ok (.iload_n 1, 1) := by decide +kernel
theorem dd_X11_lady_1 : decode mb_X11_lady 1 = .ok (.invokestatic 165, 3) := by decide +kernel
theorem dd_X11_lady_4 : decode mb_X11_lady 4 = .ok (.ifCond .eq 14, 3) := by decide +kernel
theorem dd_X11_lady_7 : decode mb_X11_lady 7 = .ok (.iload_n 2, 1) := by decide +kernel
theorem dd_X11_lady_8 : decode mb_X11_lady 8 = .ok (.iconst 0, 1) := by decide +kernel
theorem dd_X11_lady_9 : decode mb_X11_lady 9 = .ok (.sipush 999, 3) := by decide +kernel
theorem dd_X11_lady_12 : decode mb_X11_lady 12 = .ok (.invokestatic 59, 3) := by decide +kernel
theorem dd_X11_lady_15 : decode mb_X11_lady 15 = .ok (.ifCond .ne 10, 3) := by decide +kernel
theorem dd_X11_lady_18 : decode mb_X11_lady 18 = .ok (.aload_n 0, 1) := by decide +kernel
theorem dd_X11_lady_19 : decode mb_X11_lady 19 = .ok (.bipush (-2), 2) := by decide +kernel
theorem dd_X11_lady_21 : decode mb_X11_lady 21 = .ok (.invokevirtual 63, 3) := by decide +kernel
theorem dd_X11_lady_24 : decode mb_X11_lady 24 = .ok (.ireturn, 1) := by decide +kernel
theorem dd_X11_lady_25 : decode mb_X11_lady 25 = .ok (.aload_n 0, 1) := by decide +kernel
theorem dd_X11_lady_26 : decode mb_X11_lady 26 = .ok (.getfield 29, 3) := by decide +kernel
theorem dd_X11_lady_29 : decode mb_X11_lady 29 = .ok (.getfield 168, 3) := by decide +kernel
theorem dd_X11_lady_32 : decode mb_X11_lady 32 = .ok (.getfield 172, 3) := by decide +kernel
theorem dd_X11_lady_35 : decode mb_X11_lady 35 = .ok (.iconst 5, 1) := by decide +kernel
theorem dd_X11_lady_36 : decode mb_X11_lady 36 = .ok (.if_icmp .lt 10, 3) := by decide +kernel
theorem dd_X11_lady_46 : decode mb_X11_lady 46 = .ok (.aload_n 0, 1) := by decide +kernel
theorem dd_X11_lady_47 : decode mb_X11_lady 47 = .ok (.getfield 29, 3) := by decide +kernel
theorem dd_X11_lady_50 : decode mb_X11_lady 50 = .ok (.getfield 168, 3) := by decide +kernel
theorem dd_X11_lady_53 : decode mb_X11_lady 53 = .ok (.iload_n 1, 1) := by decide +kernel
theorem dd_X11_lady_54 : decode mb_X11_lady 54 = .ok (.iload_n 2, 1) := by decide +kernel
theorem dd_X11_lady_55 : decode mb_X11_lady 55 = .ok (.invokevirtual 175, 3) := by decide +kernel
theorem dd_X11_lady_58 : decode mb_X11_lady 58 = .ok (.ireturn, 1) := by decide +kernel
theorem dd_X11_laid_0 : decode mb_X11_laid 0 = .ok (.iload_n 1, 1) := by decide +kernel
theorem dd_X11_laid_1 : decode mb_X11_laid 1 = .ok (.iconst 1, 1) := by decide +kernel
theorem dd_X11_laid_2 : decode mb_X11_laid 2 = .ok (.bipush 10, 2) := by decide +kernel
theorem dd_X11_laid_4 : decode mb_X11_laid 4 = .ok (.invokestatic 59, 3) := by decide +kernel
theorem dd_X11_laid_7 : decode mb_X11_laid 7 = .ok (.ifCond .eq 17, 3) := by decide +kernel
theorem dd_X11_laid_10 : decode mb_X11_laid 10 = .ok (.aload_n 0, 1) := by decide +kernel
theorem dd_X11_laid_11 : decode mb_X11_laid 11 = .ok (.getfield 29, 3) := by decide +kernel
theorem dd_X11_laid_14 : decode mb_X11_laid 14 = .ok (.getfield 113, 3) := by decide +kernel
theorem dd_X11_laid_17 : decode mb_X11_laid 17 = .ok (.iload_n 2, 1) := by decide +kernel
theorem dd_X11_laid_18 : decode mb_X11_laid 18 = .ok (.invokevirtual 117, 3) := by decide +kernel
theorem dd_X11_laid_21 : decode mb_X11_laid 21 = .ok (.ifCond .ne 10, 3) := by decide +kernel
theorem dd_X11_laid_24 : decode mb_X11_laid 24 = .ok (.aload_n 0, 1) := by decide +kernel
theorem dd_X11_laid_25 : decode mb_X11_laid 25 = .ok (.bipush (-2), 2) := by decide +kernel
theorem dd_X11_laid_27 : decode mb_X11_laid 27 = .ok (.invokevirtual 63, 3) := by decide +kernel
theorem dd_X11_laid_30 : decode mb_X11_laid 30 = .ok (.ireturn, 1) := by decide +kernel
theorem dd_X11_lawOf_0 : decode mb_X11_lawOf 0 = .ok (.aload_n 0, 1) := by decide +kernel
theorem dd_X11_lawOf_1 : decode mb_X11_lawOf 1 = .ok (.getfield 29, 3) := by decide +kernel
theorem dd_X11_lawOf_4 : decode mb_X11_lawOf 4 = .ok (.getfield 178, 3) := by decide +kernel
theorem dd_X11_lawOf_7 : decode mb_X11_lawOf 7 = .ok (.iload_n 1, 1) := by decide +kernel
theorem dd_X11_lawOf_8 : decode mb_X11_lawOf 8 = .ok (.invokevirtual 182, 3) := by decide +kernel
theorem dd_X11_lawOf_11 : decode mb_X11_lawOf 11 = .ok (.ifCond .eq 12, 3) := by decide +kernel
theorem dd_X11_lawOf_23 : decode mb_X11_lawOf 23 = .ok (.aload_n 0, 1) := by decide +kernel
theorem dd_X11_lawOf_24 : decode mb_X11_lawOf 24 = .ok (.bipush (-2), 2) := by decide +kernel
theorem dd_X11_lawOf_26 : decode mb_X11_lawOf 26 = .ok (.invokevirtual 63, 3) := by decide +kernel
theorem dd_X11_lawOf_29 : decode mb_X11_lawOf 29 = .ok (.ireturn, 1) := by decide +kernel
theorem dd_X11_longest_0 : decode mb_X11_longest 0 = .ok (.aload_n 0, 1) := by decide +kernel
theorem dd_X11_longest_1 : decode mb_X11_longest 1 = .ok (.getfield 29, 3) := by decide +kernel
theorem dd_X11_longest_4 : decode mb_X11_longest 4 = .ok (.getfield 321, 3) := by decide +kernel
theorem dd_X11_longest_7 : decode mb_X11_longest 7 = .ok (.invokevirtual 336, 3) := by decide +kernel
theorem dd_X11_longest_10 : decode mb_X11_longest 10 = .ok (.ireturn, 1) := by decide +kernel
theorem dd_X11_looks_0 : decode mb_X11_looks 0 = .ok (.iload_n 1, 1) := by decide +kernel
theorem dd_X11_looks_1 : decode mb_X11_looks 1 = .ok (.invokestatic 339, 3) := by decide +kernel
theorem dd_X11_looks_4 : decode mb_X11_looks 4 = .ok (.ifCond .eq 13, 3) := by decide +kernel
theorem dd_X11_looks_7 : decode mb_X11_looks 7 = .ok (.iload_n 2, 1) := by decide +kernel
theorem dd_X11_looks_8 : decode mb_X11_looks 8 = .ok (.iconst 0, 1) := by decide +kernel
theorem dd_X11_looks_9 : decode mb_X11_looks 9 = .ok (.bipush 31, 2) := by decide +kernel
theorem dd_X11_looks_11 : decode mb_X11_looks 11 = .ok (.invokestatic 59, 3) := by decide +kernel
theorem dd_X11_looks_14 : decode mb_X11_looks 14 = .ok (.ifCond .ne 10, 3) := by decide +kernel
theorem dd_X11_looks_17 : decode mb_X11_looks 17 = .ok (.aload_n 0, 1) := by decide +kernel
theorem dd_X11_looks_18 : decode mb_X11_looks 18 = .ok (.bipush (-2), 2) := by decide +kernel
theorem dd_X11_looks_20 : decode mb_X11_looks 20 = .ok (.invokevirtual 63, 3) := by decide +kernel
theorem dd_X11_looks_23 : decode mb_X11_looks 23 = .ok (.ireturn, 1) := by decide +kernel
theorem dd_X11_looks_24 : decode mb_X11_looks 24 = .ok (.aload_n 0, 1) := by decide +kernel
theorem dd_X11_looks_25 : decode mb_X11_looks 25 = .ok (.getfield 29, 3) := by decide +kernel
theorem dd_X11_looks_28 : decode mb_X11_looks 28 = .ok (.getfield 342, 3) := by decide +kernel
theorem dd_X11_looks_31 : decode mb_X11_looks 31 = .ok (.getfield 350, 3) := by decide +kernel
theorem dd_X11_looks_34 : decode mb_X11_looks 34 = .ok (.iload_n 1, 1) := by decide +kernel
theorem dd_X11_looks_35 : decode mb_X11_looks 35 = .ok (.iaload, 1) := by decide +kernel
theorem dd_X11_looks_36 : decode mb_X11_looks 36 = .ok (.istore_n 3, 1) := by decide +kernel
theorem dd_X11_looks_37 : decode mb_X11_looks 37 = .ok (.aload_n 0, 1) := by decide +kernel
theorem dd_X11_looks_38 : decode mb_X11_looks 38 = .ok (.getfield 29, 3) := by decide +kernel
theorem dd_X11_looks_41 : decode mb_X11_looks 41 = .ok (.getfield 342, 3) := by decide +kernel
theorem dd_X11_looks_44 : decode mb_X11_looks 44 = .ok (.getfield 350, 3) := by decide +kernel
theorem dd_X11_looks_47 : decode mb_X11_looks 47 = .ok (.iload_n 1, 1) := by decide +kernel
theorem dd_X11_looks_48 : decode mb_X11_looks 48 = .ok (.iload_n 2, 1) := by decide +kernel
theorem dd_X11_looks_49 : decode mb_X11_looks 49 = .ok (.iastore, 1) := by decide +kernel
theorem dd_X11_looks_50 : decode mb_X11_looks 50 = .ok (.iload_n 3, 1) := by decide +kernel
theorem dd_X11_looks_51 : decode mb_X11_looks 51 = .ok (.ireturn, 1) := by decide +kernel
theorem dd_X11_loses_0 : decode mb_X11_loses 0 = .ok (.aload_n 0, 1) := by decide +kernel
theorem dd_X11_loses_1 : decode mb_X11_loses 1 = .ok (.getfield 29, 3) := by decide +kernel
theorem dd_X11_loses_4 : decode mb_X11_loses 4 = .ok (.getfield 168, 3) := by decide +kernel
theorem dd_X11_loses_7 : decode mb_X11_loses 7 = .ok (.iload_n 1, 1) := by decide +kernel
theorem dd_X11_loses_8 : decode mb_X11_loses 8 = .ok (.invokevirtual 177, 3) := by decide +kernel
theorem dd_X11_loses_11 : decode mb_X11_loses 11 = .ok (.ifCond .eq 10, 3) := by decide +kernel
theorem dd_X11_loses_21 : decode mb_X11_loses 21 = .ok (.aload_n 0, 1) := by decide +kernel
theorem dd_X11_loses_22 : decode mb_X11_loses 22 = .ok (.bipush (-2), 2) := by decide +kernel
theorem dd_X11_loses_24 : decode mb_X11_loses 24 = .ok (.invokevirtual 63, 3) := by decide +kernel
theorem dd_X11_loses_27 : decode mb_X11_loses 27 = .ok (.ireturn, 1) := by decide +kernel
theorem dd_X11_mark_0 : decode mb_X11_mark 0 = .ok (.aload_n 0, 1) := by decide +kernel
theorem dd_X11_mark_1 : decode mb_X11_mark 1 = .ok (.getfield 29, 3) := by decide +kernel
theorem dd_X11_mark_4 : decode mb_X11_mark 4 = .ok (.getfield 113, 3) := by decide +kernel
theorem dd_X11_mark_7 : decode mb_X11_mark 7 = .ok (.iload_n 1, 1) := by decide +kernel
theorem dd_X11_mark_8 : decode mb_X11_mark 8 = .ok (.invokevirtual 117, 3) := by decide +kernel
theorem dd_X11_mark_11 : decode mb_X11_mark 11 = .ok (.ifCond .eq 19, 3) := by decide +kernel
theorem dd_X11_mark_30 : decode mb_X11_mark 30 = .ok (.aload_n 0, 1) := by decide +kernel
theorem dd_X11_mark_31 : decode mb_X11_mark 31 = .ok (.bipush (-2), 2) := by decide +kernel
theorem dd_X11_mark_33 : decode mb_X11_mark 33 = .ok (.invokevirtual 63, 3) := by decide +kernel
theorem dd_X11_mark_36 : decode mb_X11_mark 36 = .ok (.ireturn, 1) := by decide +kernel
theorem dd_X11_morning_0 : decode mb_X11_morning 0 = .ok (.aload_n 0, 1) := by decide +kernel
theorem dd_X11_morning_1 : decode mb_X11_morning 1 = .ok (.getfield 29, 3) := by decide +kernel
theorem dd_X11_morning_4 : decode mb_X11_morning 4 = .ok (.getfield 282, 3) := by decide +kernel
theorem dd_X11_morning_7 : decode mb_X11_morning 7 = .ok (.istore_n 1, 1) := by decide +kernel
theorem dd_X11_morning_8 : decode mb_X11_morning 8 = .ok (.aload_n 0, 1) := by decide +kernel
theorem dd_X11_morning_9 : decode mb_X11_morning 9 = .ok (.getfield 29, 3) := by decide +kernel
theorem dd_X11_morning_12 : decode mb_X11_morning 12 = .ok (.iconst 0, 1) := by decide +kernel
theorem dd_X11_morning_13 : decode mb_X11_morning 13 = .ok (.putfield 282, 3) := by decide +kernel
theorem dd_X11_morning_16 : decode mb_X11_morning 16 = .ok (.aload_n 0, 1) := by decide +kernel
theorem dd_X11_morning_17 : decode mb_X11_morning 17 = .ok (.getfield 29, 3) := by decide +kernel
theorem dd_X11_morning_20 : decode mb_X11_morning 20 = .ok (.iconst 0, 1) := by decide +kernel
theorem dd_X11_morning_21 : decode mb_X11_morning 21 = .ok (.putfield 293, 3) := by decide +kernel
theorem dd_X11_morning_24 : decode mb_X11_morning 24 = .ok (.iload_n 1, 1) := by decide +kernel
theorem dd_X11_morning_25 : decode mb_X11_morning 25 = .ok (.ireturn, 1) := by decide +kernel
theorem dd_X11_price_0 : decode mb_X11_price 0 = .ok (.aload_n 0, 1) := by decide +kernel
theorem dd_X11_price_1 : decode mb_X11_price 1 = .ok (.getfield 29, 3) := by decide +kernel
theorem dd_X11_price_4 : decode mb_X11_price 4 = .ok (.getfield 168, 3) := by decide +kernel
theorem dd_X11_price_7 : decode mb_X11_price 7 = .ok (.iload_n 1, 1) := by decide +kernel
theorem dd_X11_price_8 : decode mb_X11_price 8 = .ok (.invokevirtual 177, 3) := by decide +kernel
theorem dd_X11_price_11 : decode mb_X11_price 11 = .ok (.ifCond .eq 10, 3) := by decide +kernel
theorem dd_X11_price_21 : decode mb_X11_price 21 = .ok (.aload_n 0, 1) := by decide +kernel
theorem dd_X11_price_22 : decode mb_X11_price 22 = .ok (.bipush (-2), 2) := by decide +kernel
theorem dd_X11_price_24 : decode mb_X11_price 24 = .ok (.invokevirtual 63, 3) := by decide +kernel
theorem dd_X11_price_27 : decode mb_X11_price 27 = .ok (.ireturn, 1) := by decide +kernel
theorem dd_X11_refusalOfRow_0 : decode mb_X11_refusalOfRow 0 = .ok (.iload_n 1, 1) := by decide +kernel
theorem dd_X11_refusalOfRow_1 : decode mb_X11_refusalOfRow 1 = .ok (.invokestatic 55, 3) := by decide +kernel
theorem dd_X11_refusalOfRow_4 : decode mb_X11_refusalOfRow 4 = .ok (.ifCond .ne 6, 3) := by decide +kernel
theorem dd_X11_refusalOfRow_7 : decode mb_X11_refusalOfRow 7 = .ok (.bipush (-2), 2) := by decide +kernel
theorem dd_X11_refusalOfRow_9 : decode mb_X11_refusalOfRow 9 = .ok (.ireturn, 1) := by decide +kernel
theorem dd_X11_refusalOfRow_10 : decode mb_X11_refusalOfRow 10 = .ok (.aload_n 0, 1) := by decide +kernel
theorem dd_X11_refusalOfRow_11 : decode mb_X11_refusalOfRow 11 = .ok (.getfield 11, 3) := by decide +kernel
theorem dd_X11_refusalOfRow_14 : decode mb_X11_refusalOfRow 14 = .ok (.iload_n 1, 1) := by decide +kernel
theorem dd_X11_refusalOfRow_15 : decode mb_X11_refusalOfRow 15 = .ok (.aaload, 1) := by decide +kernel
theorem dd_X11_refusalOfRow_16 : decode mb_X11_refusalOfRow 16 = .ok (.invokevirtual 82, 3) := by decide +kernel
theorem dd_X11_refusalOfRow_19 : decode mb_X11_refusalOfRow 19 = .ok (.ifCond .eq 6, 3) := by decide +kernel
theorem dd_X11_refusalOfRow_25 : decode mb_X11_refusalOfRow 25 = .ok (.aload_n 0, 1) := by decide +kernel
theorem dd_X11_refusalOfRow_26 : decode mb_X11_refusalOfRow 26 = .ok (.getfield 11, 3) := by decide +kernel
theorem dd_X11_refusalOfRow_29 : decode mb_X11_refusalOfRow 29 = .ok (.iload_n 1, 1) := by decide +kernel
theorem dd_X11_refusalOfRow_30 : decode mb_X11_refusalOfRow 30 = .ok (.aaload, 1) := by decide +kernel
theorem dd_X11_refusalOfRow_31 : decode mb_X11_refusalOfRow 31 = .ok (.invokevirtual 92, 3) := by decide +kernel
theorem dd_X11_refusalOfRow_34 : decode mb_X11_refusalOfRow 34 = .ok (.ifCond .eq 8, 3) := by decide +kernel
theorem dd_X11_refusalOfRow_37 : decode mb_X11_refusalOfRow 37 = .ok (.bipush (-4), 2) := by decide +kernel
theorem dd_X11_refusalOfRow_39 : decode mb_X11_refusalOfRow 39 = .ok (.goto 4, 3) := by decide +kernel
theorem dd_X11_refusalOfRow_43 : decode mb_X11_refusalOfRow 43 = .ok (.ireturn, 1) := by decide +kernel
theorem dd_X11_refuse_0 : decode mb_X11_refuse 0 = .ok (.bipush (-2), 2) := by decide +kernel
theorem dd_X11_refuse_2 : decode mb_X11_refuse 2 = .ok (.iload_n 1, 1) := by decide +kernel
theorem dd_X11_refuse_3 : decode mb_X11_refuse 3 = .ok (.isub, 1) := by decide +kernel
theorem dd_X11_refuse_4 : decode mb_X11_refuse 4 = .ok (.istore_n 2, 1) := by decide +kernel
theorem dd_X11_refuse_5 : decode mb_X11_refuse 5 = .ok (.iload_n 2, 1) := by decide +kernel
theorem dd_X11_refuse_6 : decode mb_X11_refuse 6 = .ok (.iconst 0, 1) := by decide +kernel
theorem dd_X11_refuse_7 : decode mb_X11_refuse 7 = .ok (.iconst 4, 1) := by decide +kernel
theorem dd_X11_refuse_8 : decode mb_X11_refuse 8 = .ok (.invokestatic 59, 3) := by decide +kernel
theorem dd_X11_refuse_11 : decode mb_X11_refuse 11 = .ok (.ifCond .eq 13, 3) := by decide +kernel
theorem dd_X11_refuse_14 : decode mb_X11_refuse 14 = .ok (.aload_n 0, 1) := by decide +kernel
theorem dd_X11_refuse_15 : decode mb_X11_refuse 15 = .ok (.getfield 15, 3) := by decide +kernel
theorem dd_X11_refuse_18 : decode mb_X11_refuse 18 = .ok (.iload_n 2, 1) := by decide +kernel
theorem dd_X11_refuse_19 : decode mb_X11_refuse 19 = .ok (.dup2, 1) := by decide +kernel
theorem dd_X11_refuse_20 : decode mb_X11_refuse 20 = .ok (.iaload, 1) := by decide +kernel
theorem dd_X11_refuse_21 : decode mb_X11_refuse 21 = .ok (.iconst 1, 1) := by decide +kernel
theorem dd_X11_refuse_22 : decode mb_X11_refuse 22 = .ok (.iadd, 1) := by decide +kernel
theorem dd_X11_refuse_23 : decode mb_X11_refuse 23 = .ok (.iastore, 1) := by decide +kernel
theorem dd_X11_refuse_24 : decode mb_X11_refuse 24 = .ok (.iload_n 1, 1) := by decide +kernel
theorem dd_X11_refuse_25 : decode mb_X11_refuse 25 = .ok (.ireturn, 1) := by decide +kernel
theorem dd_X11_rest_0 : decode mb_X11_rest 0 = .ok (.iload_n 1, 1) := by decide +kernel
theorem dd_X11_rest_1 : decode mb_X11_rest 1 = .ok (.iconst (-1), 1) := by decide +kernel
theorem dd_X11_rest_2 : decode mb_X11_rest 2 = .ok (.if_icmp .eq 17, 3) := by decide +kernel
theorem dd_X11_rest_5 : decode mb_X11_rest 5 = .ok (.iload_n 1, 1) := by decide +kernel
theorem dd_X11_rest_6 : decode mb_X11_rest 6 = .ok (.invokestatic 122, 3) := by decide +kernel
theorem dd_X11_rest_9 : decode mb_X11_rest 9 = .ok (.ifCond .ne 10, 3) := by decide +kernel
theorem dd_X11_rest_12 : decode mb_X11_rest 12 = .ok (.aload_n 0, 1) := by decide +kernel
theorem dd_X11_rest_13 : decode mb_X11_rest 13 = .ok (.bipush (-2), 2) := by decide +kernel
theorem dd_X11_rest_15 : decode mb_X11_rest 15 = .ok (.invokevirtual 63, 3) := by decide +kernel
theorem dd_X11_rest_18 : decode mb_X11_rest 18 = .ok (.ireturn, 1) := by decide +kernel
theorem dd_X11_rest_19 : decode mb_X11_rest 19 = .ok (.aload_n 0, 1) := by decide +kernel
theorem dd_X11_rest_20 : decode mb_X11_rest 20 = .ok (.getfield 29, 3) := by decide +kernel
theorem dd_X11_rest_23 : decode mb_X11_rest 23 = .ok (.getfield 113, 3) := by decide +kernel
theorem dd_X11_rest_26 : decode mb_X11_rest 26 = .ok (.iload_n 1, 1) := by decide +kernel
theorem dd_X11_rest_27 : decode mb_X11_rest 27 = .ok (.iconst (-1), 1) := by decide +kernel
theorem dd_X11_rest_28 : decode mb_X11_rest 28 = .ok (.if_icmp .ne 8, 3) := by decide +kernel
theorem dd_X11_rest_31 : decode mb_X11_rest 31 = .ok (.bipush 63, 2) := by decide +kernel
theorem dd_X11_rest_33 : decode mb_X11_rest 33 = .ok (.goto 6, 3) := by decide +kernel
theorem dd_X11_rest_36 : decode mb_X11_rest 36 = .ok (.iconst 1, 1) := by decide +kernel
theorem dd_X11_rest_37 : decode mb_X11_rest 37 = .ok (.iload_n 1, 1) := by decide +kernel
theorem dd_X11_rest_38 : decode mb_X11_rest 38 = .ok (.ishl, 1) := by decide +kernel
theorem dd_X11_rest_39 : decode mb_X11_rest 39 = .ok (.invokevirtual 276, 3) := by decide +kernel
theorem dd_X11_rest_42 : decode mb_X11_rest 42 = .ok (.ireturn, 1) := by decide +kernel
theorem dd_X11_row_0 : decode mb_X11_row 0 = .ok (.iload_n 1, 1) := by decide +kernel
theorem dd_X11_row_1 : decode mb_X11_row 1 = .ok (.invokestatic 55, 3) := by decide +kernel
theorem dd_X11_row_4 : decode mb_X11_row 4 = .ok (.ifCond .eq 22, 3) := by decide +kernel
theorem dd_X11_row_7 : decode mb_X11_row 7 = .ok (.iload_n 2, 1) := by decide +kernel
theorem dd_X11_row_8 : decode mb_X11_row 8 = .ok (.iconst 0, 1) := by decide +kernel
theorem dd_X11_row_9 : decode mb_X11_row 9 = .ok (.iconst 4, 1) := by decide +kernel
theorem dd_X11_row_10 : decode mb_X11_row 10 = .ok (.invokestatic 59, 3) := by decide +kernel
theorem dd_X11_row_13 : decode mb_X11_row 13 = .ok (.ifCond .eq 13, 3) := by decide +kernel
theorem dd_X11_row_16 : decode mb_X11_row 16 = .ok (.iload_n 3, 1) := by decide +kernel
theorem dd_X11_row_17 : decode mb_X11_row 17 = .ok (.iconst 0, 1) := by decide +kernel
theorem dd_X11_row_18 : decode mb_X11_row 18 = .ok (.bipush 40, 2) := by decide +kernel
theorem dd_X11_row_20 : decode mb_X11_row 20 = .ok (.invokestatic 59, 3) := by decide +kernel
theorem dd_X11_row_23 : decode mb_X11_row 23 = .ok (.ifCond .ne 10, 3) := by decide +kernel
theorem dd_X11_row_26 : decode mb_X11_row 26 = .ok (.aload_n 0, 1) := by decide +kernel
theorem dd_X11_row_27 : decode mb_X11_row 27 = .ok (.bipush (-2), 2) := by decide +kernel
theorem dd_X11_row_29 : decode mb_X11_row 29 = .ok (.invokevirtual 63, 3) := by decide +kernel
theorem dd_X11_row_32 : decode mb_X11_row 32 = .ok (.ireturn, 1) := by decide +kernel
theorem dd_X11_row_33 : decode mb_X11_row 33 = .ok (.aload_n 0, 1) := by decide +kernel
theorem dd_X11_row_34 : decode mb_X11_row 34 = .ok (.getfield 11, 3) := by decide +kernel
theorem dd_X11_row_37 : decode mb_X11_row 37 = .ok (.iload_n 1, 1) := by decide +kernel
theorem dd_X11_row_38 : decode mb_X11_row 38 = .ok (.aaload, 1) := by decide +kernel
theorem dd_X11_row_39 : decode mb_X11_row 39 = .ok (.iload_n 2, 1) := by decide +kernel
theorem dd_X11_row_40 : decode mb_X11_row 40 = .ok (.iload_n 3, 1) := by decide +kernel
theorem dd_X11_row_41 : decode mb_X11_row 41 = .ok (.invokevirtual 67, 3) := by decide +kernel
theorem dd_X11_row_44 : decode mb_X11_row 44 = .ok (.iconst 1, 1) := by decide +kernel
theorem dd_X11_row_45 : decode mb_X11_row 45 = .ok (.ireturn, 1) := by decide +kernel
theorem dd_X11_same_0 : decode mb_X11_same 0 = .ok (.aload_n 0, 1) := by decide +kernel
theorem dd_X11_same_1 : decode mb_X11_same 1 = .ok (.getfield 29, 3) := by decide +kernel
theorem dd_X11_same_4 : decode mb_X11_same 4 = .ok (.getfield 321, 3) := by decide +kernel
theorem dd_X11_same_7 : decode mb_X11_same 7 = .ok (.iload_n 1, 1) := by decide +kernel
theorem dd_X11_same_8 : decode mb_X11_same 8 = .ok (.invokevirtual 329, 3) := by decide +kernel
theorem dd_X11_same_11 : decode mb_X11_same 11 = .ok (.ifCond .eq 17, 3) := by decide +kernel
theorem dd_X11_same_28 : decode mb_X11_same 28 = .ok (.aload_n 0, 1) := by decide +kernel
theorem dd_X11_same_29 : decode mb_X11_same 29 = .ok (.bipush (-2), 2) := by decide +kernel
theorem dd_X11_same_31 : decode mb_X11_same 31 = .ok (.invokevirtual 63, 3) := by decide +kernel
theorem dd_X11_same_34 : decode mb_X11_same 34 = .ok (.ireturn, 1) := by decide +kernel
theorem dd_X11_says_0 : decode mb_X11_says 0 = .ok (.iload_n 1, 1) := by decide +kernel
theorem dd_X11_says_1 : decode mb_X11_says 1 = .ok (.invokestatic 55, 3) := by decide +kernel
theorem dd_X11_says_4 : decode mb_X11_says 4 = .ok (.ifCond .eq 10, 3) := by decide +kernel
theorem dd_X11_says_7 : decode mb_X11_says 7 = .ok (.iload_n 2, 1) := by decide +kernel
theorem dd_X11_says_8 : decode mb_X11_says 8 = .ok (.invokestatic 122, 3) := by decide +kernel
theorem dd_X11_says_11 : decode mb_X11_says 11 = .ok (.ifCond .ne 10, 3) := by decide +kernel
theorem dd_X11_says_14 : decode mb_X11_says 14 = .ok (.aload_n 0, 1) := by decide +kernel
theorem dd_X11_says_15 : decode mb_X11_says 15 = .ok (.bipush (-2), 2) := by decide +kernel
theorem dd_X11_says_17 : decode mb_X11_says 17 = .ok (.invokevirtual 63, 3) := by decide +kernel
theorem dd_X11_says_20 : decode mb_X11_says 20 = .ok (.ireturn, 1) := by decide +kernel
theorem dd_X11_says_21 : decode mb_X11_says 21 = .ok (.aload_n 0, 1) := by decide +kernel
theorem dd_X11_says_22 : decode mb_X11_says 22 = .ok (.getfield 11, 3) := by decide +kernel
theorem dd_X11_says_25 : decode mb_X11_says 25 = .ok (.iload_n 1, 1) := by decide +kernel
theorem dd_X11_says_26 : decode mb_X11_says 26 = .ok (.aaload, 1) := by decide +kernel
theorem dd_X11_says_27 : decode mb_X11_says 27 = .ok (.astore_n 3, 1) := by decide +kernel
theorem dd_X11_says_28 : decode mb_X11_says 28 = .ok (.aload_n 3, 1) := by decide +kernel
theorem dd_X11_says_29 : decode mb_X11_says 29 = .ok (.invokevirtual 92, 3) := by decide +kernel
theorem dd_X11_says_32 : decode mb_X11_says 32 = .ok (.ifCond .eq 10, 3) := by decide +kernel
theorem dd_X11_says_35 : decode mb_X11_says 35 = .ok (.aload_n 0, 1) := by decide +kernel
theorem dd_X11_says_36 : decode mb_X11_says 36 = .ok (.bipush (-4), 2) := by decide +kernel
theorem dd_X11_says_38 : decode mb_X11_says 38 = .ok (.invokevirtual 63, 3) := by decide +kernel
theorem dd_X11_says_41 : decode mb_X11_says 41 = .ok (.ireturn, 1) := by decide +kernel
theorem dd_X11_secret_0 : decode mb_X11_secret 0 = .ok (.aload_n 0, 1) := by decide +kernel
theorem dd_X11_secret_1 : decode mb_X11_secret 1 = .ok (.getfield 29, 3) := by decide +kernel
theorem dd_X11_secret_4 : decode mb_X11_secret 4 = .ok (.getfield 113, 3) := by decide +kernel
theorem dd_X11_secret_7 : decode mb_X11_secret 7 = .ok (.iload_n 1, 1) := by decide +kernel
theorem dd_X11_secret_8 : decode mb_X11_secret 8 = .ok (.invokevirtual 117, 3) := by decide +kernel
theorem dd_X11_secret_11 : decode mb_X11_secret 11 = .ok (.ifCond .eq 10, 3) := by decide +kernel
theorem dd_X11_secret_21 : decode mb_X11_secret 21 = .ok (.aload_n 0, 1) := by decide +kernel
theorem dd_X11_secret_22 : decode mb_X11_secret 22 = .ok (.bipush (-2), 2) := by decide +kernel
theorem dd_X11_secret_24 : decode mb_X11_secret 24 = .ok (.invokevirtual 63, 3) := by decide +kernel
theorem dd_X11_secret_27 : decode mb_X11_secret 27 = .ok (.ireturn, 1) := by decide +kernel
theorem dd_X11_set_0 : decode mb_X11_set 0 = .ok (.aload_n 0, 1) := by decide +kernel
theorem dd_X11_set_1 : decode mb_X11_set 1 = .ok (.iload_n 1, 1) := by decide +kernel
theorem dd_X11_set_2 : decode mb_X11_set 2 = .ok (.invokevirtual 71, 3) := by decide +kernel
theorem dd_X11_set_5 : decode mb_X11_set 5 = .ok (.istore 5, 2) := by decide +kernel
theorem dd_X11_set_7 : decode mb_X11_set 7 = .ok (.iload 5, 2) := by decide +kernel
theorem dd_X11_set_9 : decode mb_X11_set 9 = .ok (.ifCond .eq 10, 3) := by decide +kernel
theorem dd_X11_set_12 : decode mb_X11_set 12 = .ok (.aload_n 0, 1) := by decide +kernel
theorem dd_X11_set_13 : decode mb_X11_set 13 = .ok (.iload 5, 2) := by decide +kernel
theorem dd_X11_set_15 : decode mb_X11_set 15 = .ok (.invokevirtual 63, 3) := by decide +kernel
theorem dd_X11_set_18 : decode mb_X11_set 18 = .ok (.ireturn, 1) := by decide +kernel
theorem dd_X11_shelvesInUse_0 : decode mb_X11_shelvesInUse 0 = .ok (.iconst 0, 1) := by decide +kernel
theorem dd_X11_shelvesInUse_1 : decode mb_X11_shelvesInUse 1 = .ok (.istore_n 1, 1) := by decide +kernel
theorem dd_X11_shelvesInUse_2 : decode mb_X11_shelvesInUse 2 = .ok (.iconst 0, 1) := by decide +kernel
theorem dd_X11_shelvesInUse_3 : decode mb_X11_shelvesInUse 3 = .ok (.istore_n 2, 1) := by decide +kernel
theorem dd_X11_shelvesInUse_4 : decode mb_X11_shelvesInUse 4 = .ok (.iload_n 2, 1) := by decide +kernel
theorem dd_X11_shelvesInUse_5 : decode mb_X11_shelvesInUse 5 = .ok (.bipush 8, 2) := by decide +kernel
theorem dd_X11_shelvesInUse_7 : decode mb_X11_shelvesInUse 7 = .ok (.if_icmp .ge 24, 3) := by decide +kernel
theorem dd_X11_shelvesInUse_10 : decode mb_X11_shelvesInUse 10 = .ok (.aload_n 0, 1) := by decide +kernel
theorem dd_X11_shelvesInUse_11 : decode mb_X11_shelvesInUse 11 = .ok (.getfield 11, 3) := by decide +kernel
theorem dd_X11_shelvesInUse_14 : decode mb_X11_shelvesInUse 14 = .ok (.iload_n 2, 1) := by decide +kernel
theorem dd_X11_shelvesInUse_15 : decode mb_X11_shelvesInUse 15 = .ok (.aaload, 1) := by decide +kernel
theorem dd_X11_shelvesInUse_16 : decode mb_X11_shelvesInUse 16 = .ok (.invokevirtual 92, 3) := by decide +kernel
theorem dd_X11_shelvesInUse_19 : decode mb_X11_shelvesInUse 19 = .ok (.ifCond .ne 6, 3) := by decide +kernel
theorem dd_X11_shelvesInUse_25 : decode mb_X11_shelvesInUse 25 = .ok (.iinc 2 1, 3) := by decide +kernel
theorem dd_X11_shelvesInUse_28 : decode mb_X11_shelvesInUse 28 = .ok (.goto (-24), 3) := by decide +kernel
theorem dd_X11_shelvesInUse_31 : decode mb_X11_shelvesInUse 31 = .ok (.iload_n 1, 1) := by decide +kernel
theorem dd_X11_shelvesInUse_32 : decode mb_X11_shelvesInUse 32 = .ok (.ireturn, 1) := by decide +kernel
theorem dd_X11_shortBy_0 : decode mb_X11_shortBy 0 = .ok (.iload_n 1, 1) := by decide +kernel
theorem dd_X11_shortBy_1 : decode mb_X11_shortBy 1 = .ok (.iconst 1, 1) := by decide +kernel
theorem dd_X11_shortBy_2 : decode mb_X11_shortBy 2 = .ok (.sipush 9999, 3) := by decide +kernel
theorem dd_X11_shortBy_5 : decode mb_X11_shortBy 5 = .ok (.invokestatic 59, 3) := by decide +kernel
theorem dd_X11_shortBy_8 : decode mb_X11_shortBy 8 = .ok (.ifCond .ne 10, 3) := by decide +kernel
theorem dd_X11_shortBy_11 : decode mb_X11_shortBy 11 = .ok (.aload_n 0, 1) := by decide +kernel
theorem dd_X11_shortBy_12 : decode mb_X11_shortBy 12 = .ok (.bipush (-2), 2) := by decide +kernel
theorem dd_X11_shortBy_14 : decode mb_X11_shortBy 14 = .ok (.invokevirtual 63, 3) := by decide +kernel
theorem dd_X11_shortBy_17 : decode mb_X11_shortBy 17 = .ok (.ireturn, 1) := by decide +kernel
theorem dd_X11_shortBy_18 : decode mb_X11_shortBy 18 = .ok (.aload_n 0, 1) := by decide +kernel
theorem dd_X11_shortBy_19 : decode mb_X11_shortBy 19 = .ok (.getfield 46, 3) := by decide +kernel
theorem dd_X11_shortBy_22 : decode mb_X11_shortBy 22 = .ok (.aload_n 0, 1) := by decide +kernel
theorem dd_X11_shortBy_23 : decode mb_X11_shortBy 23 = .ok (.getfield 29, 3) := by decide +kernel
theorem dd_X11_shortBy_26 : decode mb_X11_shortBy 26 = .ok (.getfield 113, 3) := by decide +kernel
theorem dd_X11_shortBy_29 : decode mb_X11_shortBy 29 = .ok (.iload_n 1, 1) := by decide +kernel
theorem dd_X11_shortBy_30 : decode mb_X11_shortBy 30 = .ok (.invokevirtual 359, 3) := by decide +kernel
theorem dd_X11_shortBy_33 : decode mb_X11_shortBy 33 = .ok (.ireturn, 1) := by decide +kernel
theorem dd_X11_show_0 : decode mb_X11_show 0 = .ok (.iload_n 1, 1) := by decide +kernel
theorem dd_X11_show_1 : decode mb_X11_show 1 = .ok (.invokestatic 55, 3) := by decide +kernel
theorem dd_X11_show_4 : decode mb_X11_show 4 = .ok (.ifCond .eq 22, 3) := by decide +kernel
theorem dd_X11_show_7 : decode mb_X11_show 7 = .ok (.iload_n 2, 1) := by decide +kernel
theorem dd_X11_show_8 : decode mb_X11_show 8 = .ok (.iconst (-1), 1) := by decide +kernel
theorem dd_X11_show_9 : decode mb_X11_show 9 = .ok (.if_icmp .eq 24, 3) := by decide +kernel
theorem dd_X11_show_12 : decode mb_X11_show 12 = .ok (.aload_n 0, 1) := by decide +kernel
theorem dd_X11_show_13 : decode mb_X11_show 13 = .ok (.getfield 29, 3) := by decide +kernel
theorem dd_X11_show_16 : decode mb_X11_show 16 = .ok (.getfield 113, 3) := by decide +kernel
theorem dd_X11_show_19 : decode mb_X11_show 19 = .ok (.iload_n 2, 1) := by decide +kernel
theorem dd_X11_show_20 : decode mb_X11_show 20 = .ok (.invokevirtual 117, 3) := by decide +kernel
theorem dd_X11_show_23 : decode mb_X11_show 23 = .ok (.ifCond .ne 10, 3) := by decide +kernel
theorem dd_X11_show_26 : decode mb_X11_show 26 = .ok (.aload_n 0, 1) := by decide +kernel
theorem dd_X11_show_27 : decode mb_X11_show 27 = .ok (.bipush (-2), 2) := by decide +kernel
theorem dd_X11_show_29 : decode mb_X11_show 29 = .ok (.invokevirtual 63, 3) := by decide +kernel
theorem dd_X11_show_32 : decode mb_X11_show 32 = .ok (.ireturn, 1) := by decide +kernel
theorem dd_X11_show_33 : decode mb_X11_show 33 = .ok (.aload_n 0, 1) := by decide +kernel
theorem dd_X11_show_34 : decode mb_X11_show 34 = .ok (.getfield 11, 3) := by decide +kernel
theorem dd_X11_show_37 : decode mb_X11_show 37 = .ok (.iload_n 1, 1) := by decide +kernel
theorem dd_X11_show_38 : decode mb_X11_show 38 = .ok (.aaload, 1) := by decide +kernel
theorem dd_X11_show_39 : decode mb_X11_show 39 = .ok (.iload_n 2, 1) := by decide +kernel
theorem dd_X11_show_40 : decode mb_X11_show 40 = .ok (.iconst (-1), 1) := by decide +kernel
theorem dd_X11_show_41 : decode mb_X11_show 41 = .ok (.if_icmp .ne 7, 3) := by decide +kernel
theorem dd_X11_show_44 : decode mb_X11_show 44 = .ok (.iconst (-1), 1) := by decide +kernel
theorem dd_X11_show_45 : decode mb_X11_show 45 = .ok (.goto 7, 3) := by decide +kernel
theorem dd_X11_show_52 : decode mb_X11_show 52 = .ok (.putfield 89, 3) := by decide +kernel
theorem dd_X11_show_55 : decode mb_X11_show 55 = .ok (.iconst 1, 1) := by decide +kernel
theorem dd_X11_show_56 : decode mb_X11_show 56 = .ok (.ireturn, 1) := by decide +kernel
theorem dd_X11_shown_0 : decode mb_X11_shown 0 = .ok (.iload_n 1, 1) := by decide +kernel
theorem dd_X11_shown_1 : decode mb_X11_shown 1 = .ok (.iconst 0, 1) := by decide +kernel
theorem dd_X11_shown_2 : decode mb_X11_shown 2 = .ok (.sipush 200, 3) := by decide +kernel
theorem dd_X11_shown_5 : decode mb_X11_shown 5 = .ok (.invokestatic 59, 3) := by decide +kernel
theorem dd_X11_shown_8 : decode mb_X11_shown 8 = .ok (.ifCond .ne 10, 3) := by decide +kernel
theorem dd_X11_shown_11 : decode mb_X11_shown 11 = .ok (.aload_n 0, 1) := by decide +kernel
theorem dd_X11_shown_12 : decode mb_X11_shown 12 = .ok (.bipush (-2), 2) := by decide +kernel
theorem dd_X11_shown_14 : decode mb_X11_shown 14 = .ok (.invokevirtual 63, 3) := by decide +kernel
theorem dd_X11_shown_17 : decode mb_X11_shown 17 = .ok (.ireturn, 1) := by decide +kernel
theorem dd_X11_shown_18 : decode mb_X11_shown 18 = .ok (.aload_n 0, 1) := by decide +kernel
theorem dd_X11_shown_19 : decode mb_X11_shown 19 = .ok (.getfield 46, 3) := by decide +kernel
theorem dd_X11_shown_22 : decode mb_X11_shown 22 = .ok (.aload_n 0, 1) := by decide +kernel
theorem dd_X11_shown_23 : decode mb_X11_shown 23 = .ok (.getfield 29, 3) := by decide +kernel
theorem dd_X11_shown_26 : decode mb_X11_shown 26 = .ok (.getfield 113, 3) := by decide +kernel
theorem dd_X11_shown_29 : decode mb_X11_shown 29 = .ok (.iload_n 1, 1) := by decide +kernel
theorem dd_X11_shown_30 : decode mb_X11_shown 30 = .ok (.invokevirtual 299, 3) := by decide +kernel
theorem dd_X11_shown_33 : decode mb_X11_shown 33 = .ok (.ireturn, 1) := by decide +kernel
theorem dd_X11_sight_0 : decode mb_X11_sight 0 = .ok (.iload_n 1, 1) := by decide +kernel
theorem dd_X11_sight_1 : decode mb_X11_sight 1 = .ok (.iconst 0, 1) := by decide +kernel
theorem dd_X11_sight_2 : decode mb_X11_sight 2 = .ok (.bipush 99, 2) := by decide +kernel
theorem dd_X11_sight_4 : decode mb_X11_sight 4 = .ok (.invokestatic 59, 3) := by decide +kernel
theorem dd_X11_sight_7 : decode mb_X11_sight 7 = .ok (.ifCond .eq 29, 3) := by decide +kernel
theorem dd_X11_sight_10 : decode mb_X11_sight 10 = .ok (.iload_n 2, 1) := by decide +kernel
theorem dd_X11_sight_11 : decode mb_X11_sight 11 = .ok (.iconst 0, 1) := by decide +kernel
theorem dd_X11_sight_12 : decode mb_X11_sight 12 = .ok (.sipush 255, 3) := by decide +kernel
theorem dd_X11_sight_15 : decode mb_X11_sight 15 = .ok (.invokestatic 59, 3) := by decide +kernel
theorem dd_X11_sight_18 : decode mb_X11_sight 18 = .ok (.ifCond .eq 18, 3) := by decide +kernel
theorem dd_X11_sight_21 : decode mb_X11_sight 21 = .ok (.iload_n 3, 1) := by decide +kernel
theorem dd_X11_sight_22 : decode mb_X11_sight 22 = .ok (.invokestatic 318, 3) := by decide +kernel
theorem dd_X11_sight_25 : decode mb_X11_sight 25 = .ok (.ifCond .eq 11, 3) := by decide +kernel
theorem dd_X11_sight_28 : decode mb_X11_sight 28 = .ok (.iload 4, 2) := by decide +kernel
theorem dd_X11_sight_30 : decode mb_X11_sight 30 = .ok (.invokestatic 318, 3) := by decide +kernel
theorem dd_X11_sight_33 : decode mb_X11_sight 33 = .ok (.ifCond .ne 10, 3) := by decide +kernel
theorem dd_X11_sight_36 : decode mb_X11_sight 36 = .ok (.aload_n 0, 1) := by decide +kernel
theorem dd_X11_sight_37 : decode mb_X11_sight 37 = .ok (.bipush (-2), 2) := by decide +kernel
theorem dd_X11_sight_39 : decode mb_X11_sight 39 = .ok (.invokevirtual 63, 3) := by decide +kernel
theorem dd_X11_sight_42 : decode mb_X11_sight 42 = .ok (.ireturn, 1) := by decide +kernel
theorem dd_X11_sight_43 : decode mb_X11_sight 43 = .ok (.aload_n 0, 1) := by decide +kernel
theorem dd_X11_sight_44 : decode mb_X11_sight 44 = .ok (.getfield 29, 3) := by decide +kernel
theorem dd_X11_sight_47 : decode mb_X11_sight 47 = .ok (.getfield 321, 3) := by decide +kernel
theorem dd_X11_sight_50 : decode mb_X11_sight 50 = .ok (.getfield 325, 3) := by decide +kernel
theorem dd_X11_sight_53 : decode mb_X11_sight 53 = .ok (.bipush 20, 2) := by decide +kernel
theorem dd_X11_sight_55 : decode mb_X11_sight 55 = .ok (.if_icmp .lt 10, 3) := by decide +kernel
theorem dd_X11_sight_65 : decode mb_X11_sight 65 = .ok (.aload_n 0, 1) := by decide +kernel
theorem dd_X11_sight_66 : decode mb_X11_sight 66 = .ok (.getfield 29, 3) := by decide +kernel
theorem dd_X11_sight_69 : decode mb_X11_sight 69 = .ok (.getfield 321, 3) := by decide +kernel
theorem dd_X11_sight_72 : decode mb_X11_sight 72 = .ok (.iload_n 1, 1) := by decide +kernel
theorem dd_X11_sight_73 : decode mb_X11_sight 73 = .ok (.iload_n 2, 1) := by decide +kernel
theorem dd_X11_sight_74 : decode mb_X11_sight 74 = .ok (.iload_n 3, 1) := by decide +kernel
theorem dd_X11_sight_75 : decode mb_X11_sight 75 = .ok (.iload 4, 2) := by decide +kernel
theorem dd_X11_sight_77 : decode mb_X11_sight 77 = .ok (.invokevirtual 328, 3) := by decide +kernel
theorem dd_X11_sight_80 : decode mb_X11_sight 80 = .ok (.ireturn, 1) := by decide +kernel
theorem dd_X11_status_0 : decode mb_X11_status 0 = .ok (.iload_n 1, 1) := by decide +kernel
theorem dd_X11_status_1 : decode mb_X11_status 1 = .ok (.tableswitch 138 0 8 #[51, 62, 73, 84, 95, 103, 114, 125, 133], 51) := by decide +kernel
theorem dd_X11_status_52 : decode mb_X11_status 52 = .ok (.aload_n 0, 1) := by decide +kernel
theorem dd_X11_status_53 : decode mb_X11_status 53 = .ok (.getfield 29, 3) := by decide +kernel
theorem dd_X11_status_56 : decode mb_X11_status 56 = .ok (.getfield 113, 3) := by decide +kernel
theorem dd_X11_status_59 : decode mb_X11_status 59 = .ok (.getfield 132, 3) := by decide +kernel
theorem dd_X11_status_62 : decode mb_X11_status 62 = .ok (.ireturn, 1) := by decide +kernel
theorem dd_X11_status_63 : decode mb_X11_status 63 = .ok (.aload_n 0, 1) := by decide +kernel
theorem dd_X11_status_64 : decode mb_X11_status 64 = .ok (.getfield 29, 3) := by decide +kernel
theorem dd_X11_status_67 : decode mb_X11_status 67 = .ok (.getfield 168, 3) := by decide +kernel
theorem dd_X11_status_70 : decode mb_X11_status 70 = .ok (.getfield 172, 3) := by decide +kernel
theorem dd_X11_status_73 : decode mb_X11_status 73 = .ok (.ireturn, 1) := by decide +kernel
theorem dd_X11_status_74 : decode mb_X11_status 74 = .ok (.aload_n 0, 1) := by decide +kernel
theorem dd_X11_status_75 : decode mb_X11_status 75 = .ok (.getfield 29, 3) := by decide +kernel
theorem dd_X11_status_78 : decode mb_X11_status 78 = .ok (.getfield 178, 3) := by decide +kernel
theorem dd_X11_status_81 : decode mb_X11_status 81 = .ok (.getfield 192, 3) := by decide +kernel
theorem dd_X11_status_84 : decode mb_X11_status 84 = .ok (.ireturn, 1) := by decide +kernel
theorem dd_X11_status_85 : decode mb_X11_status 85 = .ok (.aload_n 0, 1) := by decide +kernel
theorem dd_X11_status_86 : decode mb_X11_status 86 = .ok (.getfield 29, 3) := by decide +kernel
theorem dd_X11_status_89 : decode mb_X11_status 89 = .ok (.getfield 219, 3) := by decide +kernel
theorem dd_X11_status_92 : decode mb_X11_status 92 = .ok (.getfield 223, 3) := by decide +kernel
theorem dd_X11_status_95 : decode mb_X11_status 95 = .ok (.ireturn, 1) := by decide +kernel
theorem dd_X11_status_96 : decode mb_X11_status 96 = .ok (.aload_n 0, 1) := by decide +kernel
theorem dd_X11_status_97 : decode mb_X11_status 97 = .ok (.getfield 29, 3) := by decide +kernel
theorem dd_X11_status_100 : decode mb_X11_status 100 = .ok (.getfield 303, 3) := by decide +kernel
theorem dd_X11_status_103 : decode mb_X11_status 103 = .ok (.ireturn, 1) := by decide +kernel
theorem dd_X11_status_104 : decode mb_X11_status 104 = .ok (.aload_n 0, 1) := by decide +kernel
theorem dd_X11_status_105 : decode mb_X11_status 105 = .ok (.getfield 29, 3) := by decide +kernel
theorem dd_X11_status_108 : decode mb_X11_status 108 = .ok (.getfield 321, 3) := by decide +kernel
theorem dd_X11_status_111 : decode mb_X11_status 111 = .ok (.getfield 325, 3) := by decide +kernel
theorem dd_X11_status_114 : decode mb_X11_status 114 = .ok (.ireturn, 1) := by decide +kernel
theorem dd_X11_status_115 : decode mb_X11_status 115 = .ok (.aload_n 0, 1) := by decide +kernel
theorem dd_X11_status_116 : decode mb_X11_status 116 = .ok (.getfield 29, 3) := by decide +kernel
theorem dd_X11_status_119 : decode mb_X11_status 119 = .ok (.getfield 342, 3) := by decide +kernel
theorem dd_X11_status_122 : decode mb_X11_status 122 = .ok (.getfield 346, 3) := by decide +kernel
theorem dd_X11_status_125 : decode mb_X11_status 125 = .ok (.ireturn, 1) := by decide +kernel
theorem dd_X11_status_126 : decode mb_X11_status 126 = .ok (.aload_n 0, 1) := by decide +kernel
theorem dd_X11_status_127 : decode mb_X11_status 127 = .ok (.getfield 22, 3) := by decide +kernel
theorem dd_X11_status_130 : decode mb_X11_status 130 = .ok (.getfield 188, 3) := by decide +kernel
theorem dd_X11_status_133 : decode mb_X11_status 133 = .ok (.ireturn, 1) := by decide +kernel
theorem dd_X11_status_134 : decode mb_X11_status 134 = .ok (.aload_n 0, 1) := by decide +kernel
theorem dd_X11_status_135 : decode mb_X11_status 135 = .ok (.invokevirtual 372, 3) := by decide +kernel
theorem dd_X11_status_138 : decode mb_X11_status 138 = .ok (.ireturn, 1) := by decide +kernel
theorem dd_X11_status_139 : decode mb_X11_status 139 = .ok (.iload_n 1, 1) := by decide +kernel
theorem dd_X11_status_140 : decode mb_X11_status 140 = .ok (.bipush 12, 2) := by decide +kernel
theorem dd_X11_status_142 : decode mb_X11_status 142 = .ok (.bipush 16, 2) := by decide +kernel
theorem dd_X11_status_144 : decode mb_X11_status 144 = .ok (.invokestatic 59, 3) := by decide +kernel
theorem dd_X11_status_147 : decode mb_X11_status 147 = .ok (.ifCond .eq 15, 3) := by decide +kernel
theorem dd_X11_status_150 : decode mb_X11_status 150 = .ok (.aload_n 0, 1) := by decide +kernel
theorem dd_X11_status_151 : decode mb_X11_status 151 = .ok (.getfield 15, 3) := by decide +kernel
theorem dd_X11_status_154 : decode mb_X11_status 154 = .ok (.iload_n 1, 1) := by decide +kernel
theorem dd_X11_status_155 : decode mb_X11_status 155 = .ok (.bipush 12, 2) := by decide +kernel
theorem dd_X11_status_157 : decode mb_X11_status 157 = .ok (.isub, 1) := by decide +kernel
theorem dd_X11_status_158 : decode mb_X11_status 158 = .ok (.iaload, 1) := by decide +kernel
theorem dd_X11_status_159 : decode mb_X11_status 159 = .ok (.goto 4, 3) := by decide +kernel
theorem dd_X11_status_162 : decode mb_X11_status 162 = .ok (.iconst (-1), 1) := by decide +kernel
theorem dd_X11_status_163 : decode mb_X11_status 163 = .ok (.ireturn, 1) := by decide +kernel
theorem dd_X11_table_0 : decode mb_X11_table 0 = .ok (.iload_n 1, 1) := by decide +kernel
theorem dd_X11_table_1 : decode mb_X11_table 1 = .ok (.invokestatic 165, 3) := by decide +kernel
theorem dd_X11_table_4 : decode mb_X11_table 4 = .ok (.ifCond .ne 10, 3) := by decide +kernel
theorem dd_X11_table_7 : decode mb_X11_table 7 = .ok (.aload_n 0, 1) := by decide +kernel
theorem dd_X11_table_8 : decode mb_X11_table 8 = .ok (.bipush (-2), 2) := by decide +kernel
theorem dd_X11_table_10 : decode mb_X11_table 10 = .ok (.invokevirtual 63, 3) := by decide +kernel
theorem dd_X11_table_13 : decode mb_X11_table 13 = .ok (.ireturn, 1) := by decide +kernel
theorem dd_X11_table_14 : decode mb_X11_table 14 = .ok (.aload_n 0, 1) := by decide +kernel
theorem dd_X11_table_15 : decode mb_X11_table 15 = .ok (.getfield 29, 3) := by decide +kernel
theorem dd_X11_table_18 : decode mb_X11_table 18 = .ok (.getfield 303, 3) := by decide +kernel
theorem dd_X11_table_21 : decode mb_X11_table 21 = .ok (.iconst 5, 1) := by decide +kernel
theorem dd_X11_table_22 : decode mb_X11_table 22 = .ok (.if_icmp .lt 10, 3) := by decide +kernel
theorem dd_X11_table_32 : decode mb_X11_table 32 = .ok (.aload_n 0, 1) := by decide +kernel
theorem dd_X11_table_33 : decode mb_X11_table 33 = .ok (.getfield 29, 3) := by decide +kernel
theorem dd_X11_table_36 : decode mb_X11_table 36 = .ok (.getfield 306, 3) := by decide +kernel
theorem dd_X11_table_39 : decode mb_X11_table 39 = .ok (.aload_n 0, 1) := by decide +kernel
theorem dd_X11_table_40 : decode mb_X11_table 40 = .ok (.getfield 29, 3) := by decide +kernel
theorem dd_X11_table_43 : decode mb_X11_table 43 = .ok (.getfield 303, 3) := by decide +kernel
theorem dd_X11_table_46 : decode mb_X11_table 46 = .ok (.iload_n 1, 1) := by decide +kernel
theorem dd_X11_table_47 : decode mb_X11_table 47 = .ok (.iastore, 1) := by decide +kernel
theorem dd_X11_table_48 : decode mb_X11_table 48 = .ok (.aload_n 0, 1) := by decide +kernel
theorem dd_X11_table_49 : decode mb_X11_table 49 = .ok (.getfield 29, 3) := by decide +kernel
theorem dd_X11_table_52 : decode mb_X11_table 52 = .ok (.dup, 1) := by decide +kernel
theorem dd_X11_table_53 : decode mb_X11_table 53 = .ok (.getfield 303, 3) := by decide +kernel
theorem dd_X11_table_56 : decode mb_X11_table 56 = .ok (.iconst 1, 1) := by decide +kernel
theorem dd_X11_table_57 : decode mb_X11_table 57 = .ok (.iadd, 1) := by decide +kernel
theorem dd_X11_table_58 : decode mb_X11_table 58 = .ok (.putfield 303, 3) := by decide +kernel
theorem dd_X11_table_61 : decode mb_X11_table 61 = .ok (.aload_n 0, 1) := by decide +kernel
theorem dd_X11_table_62 : decode mb_X11_table 62 = .ok (.getfield 29, 3) := by decide +kernel
theorem dd_X11_table_65 : decode mb_X11_table 65 = .ok (.getfield 303, 3) := by decide +kernel
theorem dd_X11_table_68 : decode mb_X11_table 68 = .ok (.iconst 1, 1) := by decide +kernel
theorem dd_X11_table_69 : decode mb_X11_table 69 = .ok (.isub, 1) := by decide +kernel
theorem dd_X11_table_70 : decode mb_X11_table 70 = .ok (.ireturn, 1) := by decide +kernel
theorem dd_X11_takes_0 : decode mb_X11_takes 0 = .ok (.aload_n 0, 1) := by decide +kernel
theorem dd_X11_takes_1 : decode mb_X11_takes 1 = .ok (.getfield 29, 3) := by decide +kernel
theorem dd_X11_takes_4 : decode mb_X11_takes 4 = .ok (.getfield 219, 3) := by decide +kernel
theorem dd_X11_takes_7 : decode mb_X11_takes 7 = .ok (.iload_n 1, 1) := by decide +kernel
theorem dd_X11_takes_8 : decode mb_X11_takes 8 = .ok (.invokevirtual 229, 3) := by decide +kernel
theorem dd_X11_takes_11 : decode mb_X11_takes 11 = .ok (.ifCond .eq 10, 3) := by decide +kernel
theorem dd_X11_takes_21 : decode mb_X11_takes 21 = .ok (.aload_n 0, 1) := by decide +kernel
theorem dd_X11_takes_22 : decode mb_X11_takes 22 = .ok (.bipush (-2), 2) := by decide +kernel
theorem dd_X11_takes_24 : decode mb_X11_takes 24 = .ok (.invokevirtual 63, 3) := by decide +kernel
theorem dd_X11_takes_27 : decode mb_X11_takes 27 = .ok (.ireturn, 1) := by decide +kernel
theorem dd_X11_takings_0 : decode mb_X11_takings 0 = .ok (.iload_n 1, 1) := by decide +kernel
theorem dd_X11_takings_1 : decode mb_X11_takings 1 = .ok (.iconst 0, 1) := by decide +kernel
theorem dd_X11_takings_2 : decode mb_X11_takings 2 = .ok (.bipush 12, 2) := by decide +kernel
theorem dd_X11_takings_4 : decode mb_X11_takings 4 = .ok (.invokestatic 59, 3) := by decide +kernel
theorem dd_X11_takings_7 : decode mb_X11_takings 7 = .ok (.ifCond .eq 13, 3) := by decide +kernel
theorem dd_X11_takings_10 : decode mb_X11_takings 10 = .ok (.iload_n 2, 1) := by decide +kernel
theorem dd_X11_takings_11 : decode mb_X11_takings 11 = .ok (.iconst 0, 1) := by decide +kernel
theorem dd_X11_takings_12 : decode mb_X11_takings 12 = .ok (.bipush 12, 2) := by decide +kernel
theorem dd_X11_takings_14 : decode mb_X11_takings 14 = .ok (.invokestatic 59, 3) := by decide +kernel
theorem dd_X11_takings_17 : decode mb_X11_takings 17 = .ok (.ifCond .ne 10, 3) := by decide +kernel
theorem dd_X11_takings_20 : decode mb_X11_takings 20 = .ok (.aload_n 0, 1) := by decide +kernel
theorem dd_X11_takings_21 : decode mb_X11_takings 21 = .ok (.bipush (-2), 2) := by decide +kernel
theorem dd_X11_takings_23 : decode mb_X11_takings 23 = .ok (.invokevirtual 63, 3) := by decide +kernel
theorem dd_X11_takings_26 : decode mb_X11_takings 26 = .ok (.ireturn, 1) := by decide +kernel
theorem dd_X11_takings_27 : decode mb_X11_takings 27 = .ok (.aload_n 0, 1) := by decide +kernel
theorem dd_X11_takings_28 : decode mb_X11_takings 28 = .ok (.getfield 39, 3) := by decide +kernel
theorem dd_X11_takings_31 : decode mb_X11_takings 31 = .ok (.aload_n 0, 1) := by decide +kernel
theorem dd_X11_takings_32 : decode mb_X11_takings 32 = .ok (.getfield 29, 3) := by decide +kernel
theorem dd_X11_takings_35 : decode mb_X11_takings 35 = .ok (.iload_n 1, 1) := by decide +kernel
theorem dd_X11_takings_36 : decode mb_X11_takings 36 = .ok (.iload_n 2, 1) := by decide +kernel
theorem dd_X11_takings_37 : decode mb_X11_takings 37 = .ok (.invokevirtual 265, 3) := by decide +kernel
theorem dd_X11_takings_40 : decode mb_X11_takings 40 = .ok (.ireturn, 1) := by decide +kernel
theorem dd_X11_thing_0 : decode mb_X11_thing 0 = .ok (.iload_n 1, 1) := by decide +kernel
theorem dd_X11_thing_1 : decode mb_X11_thing 1 = .ok (.invokestatic 122, 3) := by decide +kernel
theorem dd_X11_thing_4 : decode mb_X11_thing 4 = .ok (.ifCond .eq 25, 3) := by decide +kernel
theorem dd_X11_thing_7 : decode mb_X11_thing 7 = .ok (.iload_n 2, 1) := by decide +kernel
theorem dd_X11_thing_8 : decode mb_X11_thing 8 = .ok (.iconst 0, 1) := by decide +kernel
theorem dd_X11_thing_9 : decode mb_X11_thing 9 = .ok (.sipush 999, 3) := by decide +kernel
theorem dd_X11_thing_12 : decode mb_X11_thing 12 = .ok (.invokestatic 59, 3) := by decide +kernel
theorem dd_X11_thing_15 : decode mb_X11_thing 15 = .ok (.ifCond .eq 14, 3) := by decide +kernel
theorem dd_X11_thing_18 : decode mb_X11_thing 18 = .ok (.iload_n 3, 1) := by decide +kernel
theorem dd_X11_thing_19 : decode mb_X11_thing 19 = .ok (.iconst 0, 1) := by decide +kernel
theorem dd_X11_thing_20 : decode mb_X11_thing 20 = .ok (.sipush 255, 3) := by decide +kernel
theorem dd_X11_thing_23 : decode mb_X11_thing 23 = .ok (.invokestatic 59, 3) := by decide +kernel
theorem dd_X11_thing_26 : decode mb_X11_thing 26 = .ok (.ifCond .ne 10, 3) := by decide +kernel
theorem dd_X11_thing_29 : decode mb_X11_thing 29 = .ok (.aload_n 0, 1) := by decide +kernel
theorem dd_X11_thing_30 : decode mb_X11_thing 30 = .ok (.bipush (-2), 2) := by decide +kernel
theorem dd_X11_thing_32 : decode mb_X11_thing 32 = .ok (.invokevirtual 63, 3) := by decide +kernel
theorem dd_X11_thing_35 : decode mb_X11_thing 35 = .ok (.ireturn, 1) := by decide +kernel
theorem dd_X11_thing_36 : decode mb_X11_thing 36 = .ok (.aload_n 0, 1) := by decide +kernel
theorem dd_X11_thing_37 : decode mb_X11_thing 37 = .ok (.getfield 29, 3) := by decide +kernel
theorem dd_X11_thing_40 : decode mb_X11_thing 40 = .ok (.getfield 113, 3) := by decide +kernel
theorem dd_X11_thing_43 : decode mb_X11_thing 43 = .ok (.getfield 132, 3) := by decide +kernel
theorem dd_X11_thing_46 : decode mb_X11_thing 46 = .ok (.bipush 30, 2) := by decide +kernel
theorem dd_X11_thing_48 : decode mb_X11_thing 48 = .ok (.if_icmp .lt 10, 3) := by decide +kernel
theorem dd_X11_thing_58 : decode mb_X11_thing 58 = .ok (.aload_n 0, 1) := by decide +kernel
theorem dd_X11_thing_59 : decode mb_X11_thing 59 = .ok (.getfield 29, 3) := by decide +kernel
theorem dd_X11_thing_62 : decode mb_X11_thing 62 = .ok (.getfield 113, 3) := by decide +kernel
theorem dd_X11_thing_65 : decode mb_X11_thing 65 = .ok (.iload_n 1, 1) := by decide +kernel
theorem dd_X11_thing_66 : decode mb_X11_thing 66 = .ok (.iload_n 2, 1) := by decide +kernel
theorem dd_X11_thing_67 : decode mb_X11_thing 67 = .ok (.iload_n 3, 1) := by decide +kernel
theorem dd_X11_thing_68 : decode mb_X11_thing 68 = .ok (.invokevirtual 135, 3) := by decide +kernel
theorem dd_X11_thing_71 : decode mb_X11_thing 71 = .ok (.ireturn, 1) := by decide +kernel
theorem dd_X11_thingOf_0 : decode mb_X11_thingOf 0 = .ok (.aload_n 0, 1) := by decide +kernel
theorem dd_X11_thingOf_1 : decode mb_X11_thingOf 1 = .ok (.getfield 29, 3) := by decide +kernel
theorem dd_X11_thingOf_4 : decode mb_X11_thingOf 4 = .ok (.getfield 113, 3) := by decide +kernel
theorem dd_X11_thingOf_7 : decode mb_X11_thingOf 7 = .ok (.iload_n 1, 1) := by decide +kernel
theorem dd_X11_thingOf_8 : decode mb_X11_thingOf 8 = .ok (.invokevirtual 117, 3) := by decide +kernel
theorem dd_X11_thingOf_11 : decode mb_X11_thingOf 11 = .ok (.ifCond .ne 10, 3) := by decide +kernel
theorem dd_X11_thingOf_14 : decode mb_X11_thingOf 14 = .ok (.aload_n 0, 1) := by decide +kernel
theorem dd_X11_thingOf_15 : decode mb_X11_thingOf 15 = .ok (.bipush (-2), 2) := by decide +kernel
theorem dd_X11_thingOf_17 : decode mb_X11_thingOf 17 = .ok (.invokevirtual 63, 3) := by decide +kernel
theorem dd_X11_thingOf_20 : decode mb_X11_thingOf 20 = .ok (.ireturn, 1) := by decide +kernel
theorem dd_X11_things_0 : decode mb_X11_things 0 = .ok (.iload_n 1, 1) := by decide +kernel
theorem dd_X11_things_1 : decode mb_X11_things 1 = .ok (.invokestatic 55, 3) := by decide +kernel
theorem dd_X11_things_4 : decode mb_X11_things 4 = .ok (.ifCond .eq 10, 3) := by decide +kernel
theorem dd_X11_things_7 : decode mb_X11_things 7 = .ok (.iload_n 2, 1) := by decide +kernel
theorem dd_X11_things_8 : decode mb_X11_things 8 = .ok (.invokestatic 122, 3) := by decide +kernel
theorem dd_X11_things_11 : decode mb_X11_things 11 = .ok (.ifCond .ne 10, 3) := by decide +kernel
theorem dd_X11_things_14 : decode mb_X11_things 14 = .ok (.aload_n 0, 1) := by decide +kernel
theorem dd_X11_things_15 : decode mb_X11_things 15 = .ok (.bipush (-2), 2) := by decide +kernel
theorem dd_X11_things_17 : decode mb_X11_things 17 = .ok (.invokevirtual 63, 3) := by decide +kernel
theorem dd_X11_things_20 : decode mb_X11_things 20 = .ok (.ireturn, 1) := by decide +kernel
theorem dd_X11_things_21 : decode mb_X11_things 21 = .ok (.aload_n 0, 1) := by decide +kernel
theorem dd_X11_things_22 : decode mb_X11_things 22 = .ok (.iload_n 1, 1) := by decide +kernel
theorem dd_X11_things_23 : decode mb_X11_things 23 = .ok (.invokevirtual 71, 3) := by decide +kernel
theorem dd_X11_things_26 : decode mb_X11_things 26 = .ok (.istore 4, 2) := by decide +kernel
theorem dd_X11_things_28 : decode mb_X11_things 28 = .ok (.iload 4, 2) := by decide +kernel
theorem dd_X11_things_30 : decode mb_X11_things 30 = .ok (.ifCond .eq 10, 3) := by decide +kernel
theorem dd_X11_things_33 : decode mb_X11_things 33 = .ok (.aload_n 0, 1) := by decide +kernel
theorem dd_X11_things_34 : decode mb_X11_things 34 = .ok (.iload 4, 2) := by decide +kernel
theorem dd_X11_things_36 : decode mb_X11_things 36 = .ok (.invokevirtual 63, 3) := by decide +kernel
theorem dd_X11_things_39 : decode mb_X11_things 39 = .ok (.ireturn, 1) := by decide +kernel
theorem dd_X11_thinks_0 : decode mb_X11_thinks 0 = .ok (.aload_n 0, 1) := by decide +kernel
theorem dd_X11_thinks_1 : decode mb_X11_thinks 1 = .ok (.getfield 29, 3) := by decide +kernel
theorem dd_X11_thinks_4 : decode mb_X11_thinks 4 = .ok (.getfield 168, 3) := by decide +kernel
theorem dd_X11_thinks_7 : decode mb_X11_thinks 7 = .ok (.iload_n 1, 1) := by decide +kernel
theorem dd_X11_thinks_8 : decode mb_X11_thinks 8 = .ok (.invokevirtual 177, 3) := by decide +kernel
theorem dd_X11_thinks_11 : decode mb_X11_thinks 11 = .ok (.ifCond .eq 17, 3) := by decide +kernel
theorem dd_X11_thinks_28 : decode mb_X11_thinks 28 = .ok (.aload_n 0, 1) := by decide +kernel
theorem dd_X11_thinks_29 : decode mb_X11_thinks 29 = .ok (.bipush (-2), 2) := by decide +kernel
theorem dd_X11_thinks_31 : decode mb_X11_thinks 31 = .ok (.invokevirtual 63, 3) := by decide +kernel
theorem dd_X11_thinks_34 : decode mb_X11_thinks 34 = .ok (.ireturn, 1) := by decide +kernel
theorem dd_X11_turn_0 : decode mb_X11_turn 0 = .ok (.iload_n 1, 1) := by decide +kernel
theorem dd_X11_turn_1 : decode mb_X11_turn 1 = .ok (.iconst 0, 1) := by decide +kernel
theorem dd_X11_turn_2 : decode mb_X11_turn 2 = .ok (.iconst 1, 1) := by decide +kernel
theorem dd_X11_turn_3 : decode mb_X11_turn 3 = .ok (.invokestatic 59, 3) := by decide +kernel
theorem dd_X11_turn_6 : decode mb_X11_turn 6 = .ok (.ifCond .eq 13, 3) := by decide +kernel
theorem dd_X11_turn_9 : decode mb_X11_turn 9 = .ok (.iload_n 2, 1) := by decide +kernel
theorem dd_X11_turn_10 : decode mb_X11_turn 10 = .ok (.iconst 0, 1) := by decide +kernel
theorem dd_X11_turn_11 : decode mb_X11_turn 11 = .ok (.bipush 12, 2) := by decide +kernel
theorem dd_X11_turn_13 : decode mb_X11_turn 13 = .ok (.invokestatic 59, 3) := by decide +kernel
theorem dd_X11_turn_16 : decode mb_X11_turn 16 = .ok (.ifCond .ne 10, 3) := by decide +kernel
theorem dd_X11_turn_19 : decode mb_X11_turn 19 = .ok (.aload_n 0, 1) := by decide +kernel
theorem dd_X11_turn_20 : decode mb_X11_turn 20 = .ok (.bipush (-2), 2) := by decide +kernel
theorem dd_X11_turn_22 : decode mb_X11_turn 22 = .ok (.invokevirtual 63, 3) := by decide +kernel
theorem dd_X11_turn_25 : decode mb_X11_turn 25 = .ok (.ireturn, 1) := by decide +kernel
theorem dd_X11_turn_26 : decode mb_X11_turn 26 = .ok (.iload_n 1, 1) := by decide +kernel
theorem dd_X11_turn_27 : decode mb_X11_turn 27 = .ok (.ifCond .ne 13, 3) := by decide +kernel
theorem dd_X11_turn_30 : decode mb_X11_turn 30 = .ok (.aload_n 0, 1) := by decide +kernel
theorem dd_X11_turn_31 : decode mb_X11_turn 31 = .ok (.getfield 29, 3) := by decide +kernel
theorem dd_X11_turn_34 : decode mb_X11_turn 34 = .ok (.getfield 245, 3) := by decide +kernel
theorem dd_X11_turn_37 : decode mb_X11_turn 37 = .ok (.goto 10, 3) := by decide +kernel
theorem dd_X11_turn_40 : decode mb_X11_turn 40 = .ok (.aload_n 0, 1) := by decide +kernel
theorem dd_X11_turn_41 : decode mb_X11_turn 41 = .ok (.getfield 29, 3) := by decide +kernel
theorem dd_X11_turn_44 : decode mb_X11_turn 44 = .ok (.getfield 248, 3) := by decide +kernel
theorem dd_X11_turn_47 : decode mb_X11_turn 47 = .ok (.istore_n 3, 1) := by decide +kernel
theorem dd_X11_turn_48 : decode mb_X11_turn 48 = .ok (.iload_n 1, 1) := by decide +kernel
theorem dd_X11_turn_49 : decode mb_X11_turn 49 = .ok (.ifCond .ne 14, 3) := by decide +kernel
theorem dd_X11_turn_52 : decode mb_X11_turn 52 = .ok (.aload_n 0, 1) := by decide +kernel
theorem dd_X11_turn_53 : decode mb_X11_turn 53 = .ok (.getfield 29, 3) := by decide +kernel
theorem dd_X11_turn_56 : decode mb_X11_turn 56 = .ok (.iload_n 2, 1) := by decide +kernel
theorem dd_X11_turn_57 : decode mb_X11_turn 57 = .ok (.putfield 245, 3) := by decide +kernel
theorem dd_X11_turn_60 : decode mb_X11_turn 60 = .ok (.goto 11, 3) := by decide +kernel
theorem dd_X11_turn_63 : decode mb_X11_turn 63 = .ok (.aload_n 0, 1) := by decide +kernel
theorem dd_X11_turn_64 : decode mb_X11_turn 64 = .ok (.getfield 29, 3) := by decide +kernel
theorem dd_X11_turn_67 : decode mb_X11_turn 67 = .ok (.iload_n 2, 1) := by decide +kernel
theorem dd_X11_turn_68 : decode mb_X11_turn 68 = .ok (.putfield 248, 3) := by decide +kernel
theorem dd_X11_turn_71 : decode mb_X11_turn 71 = .ok (.iload_n 3, 1) := by decide +kernel
theorem dd_X11_turn_72 : decode mb_X11_turn 72 = .ok (.ireturn, 1) := by decide +kernel
theorem dd_X11_vases_0 : decode mb_X11_vases 0 = .ok (.aload_n 0, 1) := by decide +kernel
theorem dd_X11_vases_1 : decode mb_X11_vases 1 = .ok (.getfield 29, 3) := by decide +kernel
theorem dd_X11_vases_4 : decode mb_X11_vases 4 = .ok (.getfield 321, 3) := by decide +kernel
theorem dd_X11_vases_7 : decode mb_X11_vases 7 = .ok (.invokevirtual 333, 3) := by decide +kernel
theorem dd_X11_vases_10 : decode mb_X11_vases 10 = .ok (.ireturn, 1) := by decide +kernel
theorem dd_X11_who_0 : decode mb_X11_who 0 = .ok (.iload_n 1, 1) := by decide +kernel
theorem dd_X11_who_1 : decode mb_X11_who 1 = .ok (.iconst (-1), 1) := by decide +kernel
theorem dd_X11_who_2 : decode mb_X11_who 2 = .ok (.if_icmp .eq 27, 3) := by decide +kernel
theorem dd_X11_who_5 : decode mb_X11_who 5 = .ok (.iload_n 1, 1) := by decide +kernel
theorem dd_X11_who_6 : decode mb_X11_who 6 = .ok (.iconst 0, 1) := by decide +kernel
theorem dd_X11_who_7 : decode mb_X11_who 7 = .ok (.aload_n 0, 1) := by decide +kernel
theorem dd_X11_who_8 : decode mb_X11_who 8 = .ok (.getfield 29, 3) := by decide +kernel
theorem dd_X11_who_11 : decode mb_X11_who 11 = .ok (.getfield 303, 3) := by decide +kernel
theorem dd_X11_who_14 : decode mb_X11_who 14 = .ok (.iconst 1, 1) := by decide +kernel
theorem dd_X11_who_15 : decode mb_X11_who 15 = .ok (.isub, 1) := by decide +kernel
theorem dd_X11_who_16 : decode mb_X11_who 16 = .ok (.invokestatic 59, 3) := by decide +kernel
theorem dd_X11_who_19 : decode mb_X11_who 19 = .ok (.ifCond .ne 10, 3) := by decide +kernel
theorem dd_X11_who_22 : decode mb_X11_who 22 = .ok (.aload_n 0, 1) := by decide +kernel
theorem dd_X11_who_23 : decode mb_X11_who 23 = .ok (.bipush (-2), 2) := by decide +kernel
theorem dd_X11_who_25 : decode mb_X11_who 25 = .ok (.invokevirtual 63, 3) := by decide +kernel
theorem dd_X11_who_28 : decode mb_X11_who 28 = .ok (.ireturn, 1) := by decide +kernel
theorem dd_X11_who_29 : decode mb_X11_who 29 = .ok (.aload_n 0, 1) := by decide +kernel
theorem dd_X11_who_30 : decode mb_X11_who 30 = .ok (.getfield 29, 3) := by decide +kernel
theorem dd_X11_who_33 : decode mb_X11_who 33 = .ok (.getfield 303, 3) := by decide +kernel
theorem dd_X11_who_36 : decode mb_X11_who 36 = .ok (.aload_n 0, 1) := by decide +kernel
theorem dd_X11_who_37 : decode mb_X11_who 37 = .ok (.getfield 29, 3) := by decide +kernel
theorem dd_X11_who_40 : decode mb_X11_who 40 = .ok (.getfield 168, 3) := by decide +kernel
theorem dd_X11_who_43 : decode mb_X11_who 43 = .ok (.getfield 172, 3) := by decide +kernel
theorem dd_X11_who_46 : decode mb_X11_who 46 = .ok (.if_icmp .le 10, 3) := by decide +kernel
theorem dd_X11_who_56 : decode mb_X11_who 56 = .ok (.aload_n 0, 1) := by decide +kernel
theorem dd_X11_who_57 : decode mb_X11_who 57 = .ok (.getfield 29, 3) := by decide +kernel
theorem dd_X11_who_60 : decode mb_X11_who 60 = .ok (.invokevirtual 309, 3) := by decide +kernel
theorem dd_X11_who_63 : decode mb_X11_who 63 = .ok (.iload_n 1, 1) := by decide +kernel
theorem dd_X11_who_64 : decode mb_X11_who 64 = .ok (.iconst (-1), 1) := by decide +kernel
theorem dd_X11_who_65 : decode mb_X11_who 65 = .ok (.if_icmp .ne 15, 3) := by decide +kernel
theorem dd_X11_who_68 : decode mb_X11_who 68 = .ok (.aload_n 0, 1) := by decide +kernel
theorem dd_X11_who_69 : decode mb_X11_who 69 = .ok (.getfield 29, 3) := by decide +kernel
theorem dd_X11_who_72 : decode mb_X11_who 72 = .ok (.getfield 312, 3) := by decide +kernel
theorem dd_X11_who_75 : decode mb_X11_who 75 = .ok (.iconst 0, 1) := by decide +kernel
theorem dd_X11_who_76 : decode mb_X11_who 76 = .ok (.iaload, 1) := by decide +kernel
theorem dd_X11_who_77 : decode mb_X11_who 77 = .ok (.goto 11, 3) := by decide +kernel
theorem dd_X11_who_88 : decode mb_X11_who 88 = .ok (.ireturn, 1) := by decide +kernel
theorem dd_X11_wipe_0 : decode mb_X11_wipe 0 = .ok (.aload_n 0, 1) := by decide +kernel
theorem dd_X11_wipe_1 : decode mb_X11_wipe 1 = .ok (.getfield 22, 3) := by decide +kernel
theorem dd_X11_wipe_4 : decode mb_X11_wipe 4 = .ok (.getfield 188, 3) := by decide +kernel
theorem dd_X11_wipe_7 : decode mb_X11_wipe 7 = .ok (.istore_n 1, 1) := by decide +kernel
theorem dd_X11_wipe_8 : decode mb_X11_wipe 8 = .ok (.aload_n 0, 1) := by decide +kernel
theorem dd_X11_wipe_9 : decode mb_X11_wipe 9 = .ok (.getfield 22, 3) := by decide +kernel
theorem dd_X11_wipe_12 : decode mb_X11_wipe 12 = .ok (.iconst 0, 1) := by decide +kernel
theorem dd_X11_wipe_13 : decode mb_X11_wipe 13 = .ok (.putfield 188, 3) := by decide +kernel
theorem dd_X11_wipe_16 : decode mb_X11_wipe 16 = .ok (.iload_n 1, 1) := by decide +kernel
theorem dd_X11_wipe_17 : decode mb_X11_wipe 17 = .ok (.ireturn, 1) := by decide +kernel
theorem dd_X11_within_0 : decode mb_X11_within 0 = .ok (.iload_n 0, 1) := by decide +kernel
theorem dd_X11_within_1 : decode mb_X11_within 1 = .ok (.iload_n 1, 1) := by decide +kernel
theorem dd_X11_within_2 : decode mb_X11_within 2 = .ok (.if_icmp .lt 12, 3) := by decide +kernel
theorem dd_X11_within_5 : decode mb_X11_within 5 = .ok (.iload_n 0, 1) := by decide +kernel
theorem dd_X11_within_6 : decode mb_X11_within 6 = .ok (.iload_n 2, 1) := by decide +kernel
theorem dd_X11_within_7 : decode mb_X11_within 7 = .ok (.if_icmp .gt 7, 3) := by decide +kernel
theorem dd_X11_within_10 : decode mb_X11_within 10 = .ok (.iconst 1, 1) := by decide +kernel
theorem dd_X11_within_11 : decode mb_X11_within 11 = .ok (.goto 4, 3) := by decide +kernel
theorem dd_X11_within_14 : decode mb_X11_within 14 = .ok (.iconst 0, 1) := by decide +kernel
theorem dd_X11_within_15 : decode mb_X11_within 15 = .ok (.ireturn, 1) := by decide +kernel
theorem dd_X1_bestLady_0 : decode mb_X1_bestLady 0 = .ok (.iconst (-1), 1) := by decide +kernel
theorem dd_X1_bestLady_1 : decode mb_X1_bestLady 1 = .ok (.istore_n 3, 1) := by decide +kernel
theorem dd_X1_bestLady_2 : decode mb_X1_bestLady 2 = .ok (.iconst 0, 1) := by decide +kernel
theorem dd_X1_bestLady_3 : decode mb_X1_bestLady 3 = .ok (.istore 4, 2) := by decide +kernel
theorem dd_X1_bestLady_5 : decode mb_X1_bestLady 5 = .ok (.iload_n 2, 1) := by decide +kernel
theorem dd_X1_bestLady_6 : decode mb_X1_bestLady 6 = .ok (.aload_n 0, 1) := by decide +kernel
theorem dd_X1_bestLady_7 : decode mb_X1_bestLady 7 = .ok (.getfield 57, 3) := by decide +kernel
theorem dd_X1_bestLady_10 : decode mb_X1_bestLady 10 = .ok (.if_icmp .lt 5, 3) := by decide +kernel
theorem dd_X1_bestLady_13 : decode mb_X1_bestLady 13 = .ok (.iconst (-1), 1) := by decide +kernel
theorem dd_X1_bestLady_14 : decode mb_X1_bestLady 14 = .ok (.ireturn, 1) := by decide +kernel
theorem dd_X1_planTables_0 : decode mb_X1_planTables 0 = .ok (.iconst 0, 1) := by decide +kernel
theorem dd_X1_planTables_1 : decode mb_X1_planTables 1 = .ok (.istore_n 1, 1) := by decide +kernel
theorem dd_X1_planTables_2 : decode mb_X1_planTables 2 = .ok (.iload_n 1, 1) := by decide +kernel
theorem dd_X1_planTables_3 : decode mb_X1_planTables 3 = .ok (.aload_n 0, 1) := by decide +kernel
theorem dd_X1_planTables_4 : decode mb_X1_planTables 4 = .ok (.getfield 21, 3) := by decide +kernel
theorem dd_X1_planTables_7 : decode mb_X1_planTables 7 = .ok (.getfield 130, 3) := by decide +kernel
theorem dd_X1_planTables_10 : decode mb_X1_planTables 10 = .ok (.if_icmp .ge 46, 3) := by decide +kernel
theorem dd_X1_planTables_56 : decode mb_X1_planTables 56 = .ok (.iconst 1, 1) := by decide +kernel
theorem dd_X1_planTables_57 : decode mb_X1_planTables 57 = .ok (.aload_n 0, 1) := by decide +kernel
theorem dd_X1_planTables_58 : decode mb_X1_planTables 58 = .ok (.getfield 21, 3) := by decide +kernel
theorem dd_X1_planTables_61 : decode mb_X1_planTables 61 = .ok (.getfield 130, 3) := by decide +kernel
theorem dd_X1_planTables_64 : decode mb_X1_planTables 64 = .ok (.ishl, 1) := by decide +kernel
theorem dd_X1_planTables_65 : decode mb_X1_planTables 65 = .ok (.iconst 1, 1) := by decide +kernel
theorem dd_X1_planTables_66 : decode mb_X1_planTables 66 = .ok (.isub, 1) := by decide +kernel
theorem dd_X1_planTables_67 : decode mb_X1_planTables 67 = .ok (.istore_n 1, 1) := by decide +kernel
theorem dd_X1_planTables_68 : decode mb_X1_planTables 68 = .ok (.iload_n 1, 1) := by decide +kernel
theorem dd_X1_planTables_69 : decode mb_X1_planTables 69 = .ok (.ifCond .lt 43, 3) := by decide +kernel
theorem dd_X1_planTables_72 : decode mb_X1_planTables 72 = .ok (.iload_n 1, 1) := by decide +kernel
theorem dd_X1_planTables_73 : decode mb_X1_planTables 73 = .ok (.invokestatic 134, 3) := by decide +kernel
theorem dd_X1_planTables_76 : decode mb_X1_planTables 76 = .ok (.istore_n 2, 1) := by decide +kernel
theorem dd_X1_planTables_77 : decode mb_X1_planTables 77 = .ok (.aload_n 0, 1) := by decide +kernel
theorem dd_X1_planTables_78 : decode mb_X1_planTables 78 = .ok (.iload_n 1, 1) := by decide +kernel
theorem dd_X1_planTables_79 : decode mb_X1_planTables 79 = .ok (.iload_n 2, 1) := by decide +kernel
theorem dd_X1_planTables_80 : decode mb_X1_planTables 80 = .ok (.invokevirtual 139, 3) := by decide +kernel
theorem dd_X1_planTables_83 : decode mb_X1_planTables 83 = .ok (.istore_n 3, 1) := by decide +kernel
theorem dd_X1_planTables_84 : decode mb_X1_planTables 84 = .ok (.aload_n 0, 1) := by decide +kernel
theorem dd_X1_planTables_85 : decode mb_X1_planTables 85 = .ok (.getfield 76, 3) := by decide +kernel
theorem dd_X1_planTables_88 : decode mb_X1_planTables 88 = .ok (.iload_n 1, 1) := by decide +kernel
theorem dd_X1_planTables_89 : decode mb_X1_planTables 89 = .ok (.iload_n 3, 1) := by decide +kernel
theorem dd_X1_planTables_90 : decode mb_X1_planTables 90 = .ok (.iconst (-1), 1) := by decide +kernel
theorem dd_X1_planTables_91 : decode mb_X1_planTables 91 = .ok (.if_icmp .ne 7, 3) := by decide +kernel
theorem dd_X1_planTables_94 : decode mb_X1_planTables 94 = .ok (.iconst 0, 1) := by decide +kernel
theorem dd_X1_planTables_95 : decode mb_X1_planTables 95 = .ok (.goto 10, 3) := by decide +kernel
theorem dd_X1_planTables_105 : decode mb_X1_planTables 105 = .ok (.iastore, 1) := by decide +kernel
theorem dd_X1_planTables_106 : decode mb_X1_planTables 106 = .ok (.iinc 1 (-1), 3) := by decide +kernel
theorem dd_X1_planTables_109 : decode mb_X1_planTables 109 = .ok (.goto (-41), 3) := by decide +kernel
theorem dd_X1_planTables_112 : decode mb_X1_planTables 112 = .ok (.return_, 1) := by decide +kernel
theorem dd_X2_add_0 : decode mb_X2_add 0 = .ok (.aload_n 0, 1) := by decide +kernel
theorem dd_X2_add_1 : decode mb_X2_add 1 = .ok (.getfield 9, 3) := by decide +kernel
theorem dd_X2_add_4 : decode mb_X2_add 4 = .ok (.aload_n 0, 1) := by decide +kernel
theorem dd_X2_add_5 : decode mb_X2_add 5 = .ok (.getfield 21, 3) := by decide +kernel
theorem dd_X2_add_8 : decode mb_X2_add 8 = .ok (.iload_n 1, 1) := by decide +kernel
theorem dd_X2_add_9 : decode mb_X2_add 9 = .ok (.iastore, 1) := by decide +kernel
theorem dd_X2_add_10 : decode mb_X2_add 10 = .ok (.aload_n 0, 1) := by decide +kernel
theorem dd_X2_add_11 : decode mb_X2_add 11 = .ok (.getfield 15, 3) := by decide +kernel
theorem dd_X2_add_14 : decode mb_X2_add 14 = .ok (.aload_n 0, 1) := by decide +kernel
theorem dd_X2_add_15 : decode mb_X2_add 15 = .ok (.getfield 21, 3) := by decide +kernel
theorem dd_X2_add_18 : decode mb_X2_add 18 = .ok (.iload_n 2, 1) := by decide +kernel
theorem dd_X2_add_19 : decode mb_X2_add 19 = .ok (.iastore, 1) := by decide +kernel
theorem dd_X2_add_20 : decode mb_X2_add 20 = .ok (.aload_n 0, 1) := by decide +kernel
theorem dd_X2_add_21 : decode mb_X2_add 21 = .ok (.getfield 18, 3) := by decide +kernel
theorem dd_X2_add_24 : decode mb_X2_add 24 = .ok (.aload_n 0, 1) := by decide +kernel
theorem dd_X2_add_25 : decode mb_X2_add 25 = .ok (.getfield 21, 3) := by decide +kernel
theorem dd_X2_add_28 : decode mb_X2_add 28 = .ok (.iconst (-1), 1) := by decide +kernel
theorem dd_X2_add_29 : decode mb_X2_add 29 = .ok (.iastore, 1) := by decide +kernel
theorem dd_X2_add_30 : decode mb_X2_add 30 = .ok (.aload_n 0, 1) := by decide +kernel
theorem dd_X2_add_31 : decode mb_X2_add 31 = .ok (.dup, 1) := by decide +kernel
theorem dd_X2_add_32 : decode mb_X2_add 32 = .ok (.getfield 21, 3) := by decide +kernel
theorem dd_X2_add_35 : decode mb_X2_add 35 = .ok (.iconst 1, 1) := by decide +kernel
theorem dd_X2_add_36 : decode mb_X2_add 36 = .ok (.iadd, 1) := by decide +kernel
theorem dd_X2_add_37 : decode mb_X2_add 37 = .ok (.putfield 21, 3) := by decide +kernel
theorem dd_X2_add_40 : decode mb_X2_add 40 = .ok (.aload_n 0, 1) := by decide +kernel
theorem dd_X2_add_41 : decode mb_X2_add 41 = .ok (.getfield 21, 3) := by decide +kernel
theorem dd_X2_add_44 : decode mb_X2_add 44 = .ok (.iconst 1, 1) := by decide +kernel
theorem dd_X2_add_45 : decode mb_X2_add 45 = .ok (.isub, 1) := by decide +kernel
theorem dd_X2_add_46 : decode mb_X2_add 46 = .ok (.ireturn, 1) := by decide +kernel
theorem dd_X2_has_0 : decode mb_X2_has 0 = .ok (.iload_n 1, 1) := by decide +kernel
theorem dd_X2_has_1 : decode mb_X2_has 1 = .ok (.iconst 0, 1) := by decide +kernel
theorem dd_X2_has_2 : decode mb_X2_has 2 = .ok (.aload_n 0, 1) := by decide +kernel
theorem dd_X2_has_3 : decode mb_X2_has 3 = .ok (.getfield 21, 3) := by decide +kernel
theorem dd_X2_has_6 : decode mb_X2_has 6 = .ok (.iconst 1, 1) := by decide +kernel
theorem dd_X2_has_7 : decode mb_X2_has 7 = .ok (.isub, 1) := by decide +kernel
theorem dd_X2_has_8 : decode mb_X2_has 8 = .ok (.invokestatic 25, 3) := by decide +kernel
theorem dd_X2_has_11 : decode mb_X2_has 11 = .ok (.ireturn, 1) := by decide +kernel
theorem dd_X3_has_0 : decode mb_X3_has 0 = .ok (.iload_n 1, 1) := by decide +kernel
theorem dd_X3_has_1 : decode mb_X3_has 1 = .ok (.iconst 0, 1) := by decide +kernel
theorem dd_X3_has_2 : decode mb_X3_has 2 = .ok (.aload_n 0, 1) := by decide +kernel
theorem dd_X3_has_3 : decode mb_X3_has 3 = .ok (.getfield 18, 3) := by decide +kernel
theorem dd_X3_has_6 : decode mb_X3_has 6 = .ok (.iconst 1, 1) := by decide +kernel
theorem dd_X3_has_7 : decode mb_X3_has 7 = .ok (.isub, 1) := by decide +kernel
theorem dd_X3_has_8 : decode mb_X3_has 8 = .ok (.invokestatic 28, 3) := by decide +kernel
theorem dd_X3_has_11 : decode mb_X3_has 11 = .ok (.ireturn, 1) := by decide +kernel
theorem dd_X4_bargains_0 : decode mb_X4_bargains 0 = .ok (.iconst 0, 1) := by decide +kernel
theorem dd_X4_bargains_1 : decode mb_X4_bargains 1 = .ok (.istore_n 3, 1) := by decide +kernel
theorem dd_X4_bargains_2 : decode mb_X4_bargains 2 = .ok (.iload_n 3, 1) := by decide +kernel
theorem dd_X4_bargains_3 : decode mb_X4_bargains 3 = .ok (.iload_n 2, 1) := by decide +kernel
theorem dd_X4_bargains_4 : decode mb_X4_bargains 4 = .ok (.if_icmp .gt 23, 3) := by decide +kernel
theorem dd_X4_bargains_7 : decode mb_X4_bargains 7 = .ok (.aload_n 0, 1) := by decide +kernel
theorem dd_X4_bargains_8 : decode mb_X4_bargains 8 = .ok (.getfield 9, 3) := by decide +kernel
theorem dd_X4_bargains_11 : decode mb_X4_bargains 11 = .ok (.iload_n 3, 1) := by decide +kernel
theorem dd_X4_bargains_12 : decode mb_X4_bargains 12 = .ok (.iconst 0, 1) := by decide +kernel
theorem dd_X4_bargains_13 : decode mb_X4_bargains 13 = .ok (.iastore, 1) := by decide +kernel
theorem dd_X4_bargains_14 : decode mb_X4_bargains 14 = .ok (.aload_n 0, 1) := by decide +kernel
theorem dd_X4_bargains_15 : decode mb_X4_bargains 15 = .ok (.getfield 15, 3) := by decide +kernel
theorem dd_X4_bargains_18 : decode mb_X4_bargains 18 = .ok (.iload_n 3, 1) := by decide +kernel
theorem dd_X4_bargains_19 : decode mb_X4_bargains 19 = .ok (.iconst 0, 1) := by decide +kernel
theorem dd_X4_bargains_20 : decode mb_X4_bargains 20 = .ok (.iastore, 1) := by decide +kernel
theorem dd_X4_bargains_21 : decode mb_X4_bargains 21 = .ok (.iinc 3 1, 3) := by decide +kernel
theorem dd_X4_bargains_24 : decode mb_X4_bargains 24 = .ok (.goto (-22), 3) := by decide +kernel
theorem dd_X4_bargains_27 : decode mb_X4_bargains 27 = .ok (.iconst 0, 1) := by decide +kernel
theorem dd_X4_bargains_28 : decode mb_X4_bargains 28 = .ok (.istore_n 3, 1) := by decide +kernel
theorem dd_X4_bargains_29 : decode mb_X4_bargains 29 = .ok (.iload_n 3, 1) := by decide +kernel
theorem dd_X4_bargains_30 : decode mb_X4_bargains 30 = .ok (.aload_n 1, 1) := by decide +kernel
theorem dd_X4_bargains_31 : decode mb_X4_bargains 31 = .ok (.getfield 18, 3) := by decide +kernel
theorem dd_X4_bargains_34 : decode mb_X4_bargains 34 = .ok (.if_icmp .ge 43, 3) := by decide +kernel
theorem dd_X4_bargains_77 : decode mb_X4_bargains 77 = .ok (.aload_n 0, 1) := by decide +kernel
theorem dd_X4_bargains_78 : decode mb_X4_bargains 78 = .ok (.getfield 9, 3) := by decide +kernel
theorem dd_X4_bargains_81 : decode mb_X4_bargains 81 = .ok (.iload_n 2, 1) := by decide +kernel
theorem dd_X4_bargains_82 : decode mb_X4_bargains 82 = .ok (.iaload, 1) := by decide +kernel
theorem dd_X4_bargains_83 : decode mb_X4_bargains 83 = .ok (.ireturn, 1) := by decide +kernel
theorem dd_X4_fewestPaid_0 : decode mb_X4_fewestPaid 0 = .ok (.aload_n 0, 1) := by decide +kernel
theorem dd_X4_fewestPaid_1 : decode mb_X4_fewestPaid 1 = .ok (.getfield 9, 3) := by decide +kernel
theorem dd_X4_fewestPaid_4 : decode mb_X4_fewestPaid 4 = .ok (.iconst 0, 1) := by decide +kernel
theorem dd_X4_fewestPaid_5 : decode mb_X4_fewestPaid 5 = .ok (.iconst 0, 1) := by decide +kernel
theorem dd_X4_fewestPaid_6 : decode mb_X4_fewestPaid 6 = .ok (.iastore, 1) := by decide +kernel
theorem dd_X4_fewestPaid_7 : decode mb_X4_fewestPaid 7 = .ok (.iconst 1, 1) := by decide +kernel
theorem dd_X4_fewestPaid_8 : decode mb_X4_fewestPaid 8 = .ok (.istore_n 3, 1) := by decide +kernel
theorem dd_X4_fewestPaid_9 : decode mb_X4_fewestPaid 9 = .ok (.iload_n 3, 1) := by decide +kernel
theorem dd_X4_fewestPaid_10 : decode mb_X4_fewestPaid 10 = .ok (.iload_n 2, 1) := by decide +kernel
theorem dd_X4_fewestPaid_11 : decode mb_X4_fewestPaid 11 = .ok (.if_icmp .gt 16, 3) := by decide +kernel
theorem dd_X4_fewestPaid_14 : decode mb_X4_fewestPaid 14 = .ok (.aload_n 0, 1) := by decide +kernel
theorem dd_X4_fewestPaid_15 : decode mb_X4_fewestPaid 15 = .ok (.getfield 9, 3) := by decide +kernel
theorem dd_X4_fewestPaid_18 : decode mb_X4_fewestPaid 18 = .ok (.iload_n 3, 1) := by decide +kernel
theorem dd_X4_fewestPaid_19 : decode mb_X4_fewestPaid 19 = .ok (.iconst (-1), 1) := by decide +kernel
theorem dd_X4_fewestPaid_20 : decode mb_X4_fewestPaid 20 = .ok (.iastore, 1) := by decide +kernel
theorem dd_X4_fewestPaid_21 : decode mb_X4_fewestPaid 21 = .ok (.iinc 3 1, 3) := by decide +kernel
theorem dd_X4_fewestPaid_24 : decode mb_X4_fewestPaid 24 = .ok (.goto (-15), 3) := by decide +kernel
theorem dd_X4_fewestPaid_27 : decode mb_X4_fewestPaid 27 = .ok (.iconst 0, 1) := by decide +kernel
theorem dd_X4_fewestPaid_28 : decode mb_X4_fewestPaid 28 = .ok (.istore_n 3, 1) := by decide +kernel
theorem dd_X4_fewestPaid_29 : decode mb_X4_fewestPaid 29 = .ok (.iconst 0, 1) := by decide +kernel
theorem dd_X4_fewestPaid_30 : decode mb_X4_fewestPaid 30 = .ok (.istore 4, 2) := by decide +kernel
theorem dd_X4_fewestPaid_32 : decode mb_X4_fewestPaid 32 = .ok (.iload 4, 2) := by decide +kernel
theorem dd_X4_fewestPaid_34 : decode mb_X4_fewestPaid 34 = .ok (.aload_n 1, 1) := by decide +kernel
theorem dd_X4_fewestPaid_35 : decode mb_X4_fewestPaid 35 = .ok (.getfield 18, 3) := by decide +kernel
theorem dd_X4_fewestPaid_38 : decode mb_X4_fewestPaid 38 = .ok (.if_icmp .ge 46, 3) := by decide +kernel
theorem dd_X4_fewestPaid_84 : decode mb_X4_fewestPaid 84 = .ok (.aload_n 0, 1) := by decide +kernel
theorem dd_X4_fewestPaid_85 : decode mb_X4_fewestPaid 85 = .ok (.getfield 9, 3) := by decide +kernel
theorem dd_X4_fewestPaid_88 : decode mb_X4_fewestPaid 88 = .ok (.iload_n 2, 1) := by decide +kernel
theorem dd_X4_fewestPaid_89 : decode mb_X4_fewestPaid 89 = .ok (.iaload, 1) := by decide +kernel
theorem dd_X4_fewestPaid_90 : decode mb_X4_fewestPaid 90 = .ok (.ireturn, 1) := by decide +kernel
theorem dd_X5_open_0 : decode mb_X5_open 0 = .ok (.aload_n 1, 1) := by decide +kernel
theorem dd_X5_open_1 : decode mb_X5_open 1 = .ok (.getfield 40, 3) := by decide +kernel
theorem dd_X5_open_4 : decode mb_X5_open 4 = .ok (.astore 4, 2) := by decide +kernel
theorem dd_X5_open_6 : decode mb_X5_open 6 = .ok (.aload_n 0, 1) := by decide +kernel
theorem dd_X5_open_7 : decode mb_X5_open 7 = .ok (.iload_n 2, 1) := by decide +kernel
theorem dd_X5_open_8 : decode mb_X5_open 8 = .ok (.putfield 9, 3) := by decide +kernel
theorem dd_X5_open_11 : decode mb_X5_open 11 = .ok (.aload_n 0, 1) := by decide +kernel
theorem dd_X5_open_12 : decode mb_X5_open 12 = .ok (.iload_n 3, 1) := by decide +kernel
theorem dd_X5_open_13 : decode mb_X5_open 13 = .ok (.putfield 15, 3) := by decide +kernel
theorem dd_X5_open_16 : decode mb_X5_open 16 = .ok (.aload_n 0, 1) := by decide +kernel
theorem dd_X5_open_17 : decode mb_X5_open 17 = .ok (.iconst 0, 1) := by decide +kernel
theorem dd_X5_open_18 : decode mb_X5_open 18 = .ok (.putfield 22, 3) := by decide +kernel
theorem dd_X5_open_21 : decode mb_X5_open 21 = .ok (.iconst 0, 1) := by decide +kernel
theorem dd_X5_open_22 : decode mb_X5_open 22 = .ok (.istore 5, 2) := by decide +kernel
theorem dd_X5_open_24 : decode mb_X5_open 24 = .ok (.iload 5, 2) := by decide +kernel
theorem dd_X5_open_26 : decode mb_X5_open 26 = .ok (.aload 4, 2) := by decide +kernel
theorem dd_X5_open_28 : decode mb_X5_open 28 = .ok (.getfield 46, 3) := by decide +kernel
theorem dd_X5_open_31 : decode mb_X5_open 31 = .ok (.if_icmp .ge 62, 3) := by decide +kernel
theorem dd_X5_open_93 : decode mb_X5_open 93 = .ok (.iconst 0, 1) := by decide +kernel
theorem dd_X5_open_94 : decode mb_X5_open 94 = .ok (.istore 5, 2) := by decide +kernel
theorem dd_X5_open_96 : decode mb_X5_open 96 = .ok (.iload 5, 2) := by decide +kernel
theorem dd_X5_open_98 : decode mb_X5_open 98 = .ok (.aload_n 1, 1) := by decide +kernel
theorem dd_X5_open_99 : decode mb_X5_open 99 = .ok (.getfield 59, 3) := by decide +kernel
theorem dd_X5_open_102 : decode mb_X5_open 102 = .ok (.getfield 63, 3) := by decide +kernel
theorem dd_X5_open_105 : decode mb_X5_open 105 = .ok (.if_icmp .ge 34, 3) := by decide +kernel
theorem dd_X5_open_139 : decode mb_X5_open 139 = .ok (.return_, 1) := by decide +kernel
theorem dd_X5_playHour_0 : decode mb_X5_playHour 0 = .ok (.iload_n 2, 1) := by decide +kernel
theorem dd_X5_playHour_1 : decode mb_X5_playHour 1 = .ok (.aload_n 0, 1) := by decide +kernel
theorem dd_X5_playHour_2 : decode mb_X5_playHour 2 = .ok (.getfield 9, 3) := by decide +kernel
theorem dd_X5_playHour_5 : decode mb_X5_playHour 5 = .ok (.aload_n 0, 1) := by decide +kernel
theorem dd_X5_playHour_6 : decode mb_X5_playHour 6 = .ok (.getfield 15, 3) := by decide +kernel
theorem dd_X5_playHour_9 : decode mb_X5_playHour 9 = .ok (.invokestatic 70, 3) := by decide +kernel
theorem dd_X5_playHour_12 : decode mb_X5_playHour 12 = .ok (.istore_n 3, 1) := by decide +kernel
theorem dd_X5_playHour_13 : decode mb_X5_playHour 13 = .ok (.iconst 0, 1) := by decide +kernel
theorem dd_X5_playHour_14 : decode mb_X5_playHour 14 = .ok (.istore 4, 2) := by decide +kernel
theorem dd_X5_playHour_16 : decode mb_X5_playHour 16 = .ok (.iconst 0, 1) := by decide +kernel
theorem dd_X5_playHour_17 : decode mb_X5_playHour 17 = .ok (.istore 5, 2) := by decide +kernel
theorem dd_X5_playHour_19 : decode mb_X5_playHour 19 = .ok (.iload 5, 2) := by decide +kernel
theorem dd_X5_playHour_21 : decode mb_X5_playHour 21 = .ok (.aload_n 1, 1) := by decide +kernel
theorem dd_X5_playHour_22 : decode mb_X5_playHour 22 = .ok (.getfield 59, 3) := by decide +kernel
theorem dd_X5_playHour_25 : decode mb_X5_playHour 25 = .ok (.getfield 63, 3) := by decide +kernel
theorem dd_X5_playHour_28 : decode mb_X5_playHour 28 = .ok (.if_icmp .ge 93, 3) := by decide +kernel
theorem dd_X5_playHour_121 : decode mb_X5_playHour 121 = .ok (.iload 4, 2) := by decide +kernel
theorem dd_X5_playHour_123 : decode mb_X5_playHour 123 = .ok (.ireturn, 1) := by decide +kernel
theorem dd_X5_settle_0 : decode mb_X5_settle 0 = .ok (.aload_n 1, 1) := by decide +kernel
theorem dd_X5_settle_1 : decode mb_X5_settle 1 = .ok (.getfield 40, 3) := by decide +kernel
theorem dd_X5_settle_4 : decode mb_X5_settle 4 = .ok (.astore_n 2, 1) := by decide +kernel
theorem dd_X5_settle_5 : decode mb_X5_settle 5 = .ok (.aload_n 1, 1) := by decide +kernel
theorem dd_X5_settle_6 : decode mb_X5_settle 6 = .ok (.getfield 59, 3) := by decide +kernel
theorem dd_X5_settle_9 : decode mb_X5_settle 9 = .ok (.astore_n 3, 1) := by decide +kernel
theorem dd_X5_settle_10 : decode mb_X5_settle 10 = .ok (.iconst 0, 1) := by decide +kernel
theorem dd_X5_settle_11 : decode mb_X5_settle 11 = .ok (.istore 4, 2) := by decide +kernel
theorem dd_X5_settle_13 : decode mb_X5_settle 13 = .ok (.iload 4, 2) := by decide +kernel
theorem dd_X5_settle_15 : decode mb_X5_settle 15 = .ok (.aload_n 2, 1) := by decide +kernel
theorem dd_X5_settle_16 : decode mb_X5_settle 16 = .ok (.getfield 46, 3) := by decide +kernel
theorem dd_X5_settle_19 : decode mb_X5_settle 19 = .ok (.if_icmp .ge 78, 3) := by decide +kernel
theorem dd_X5_settle_97 : decode mb_X5_settle 97 = .ok (.return_, 1) := by decide +kernel
theorem dd_X5_stage_0 : decode mb_X5_stage 0 = .ok (.iload_n 0, 1) := by decide +kernel
theorem dd_X5_stage_1 : decode mb_X5_stage 1 = .ok (.iload_n 2, 1) := by decide +kernel
theorem dd_X5_stage_2 : decode mb_X5_stage 2 = .ok (.if_icmp .lt 5, 3) := by decide +kernel
theorem dd_X5_stage_5 : decode mb_X5_stage 5 = .ok (.iconst 2, 1) := by decide +kernel
theorem dd_X5_stage_6 : decode mb_X5_stage 6 = .ok (.ireturn, 1) := by decide +kernel
theorem dd_X5_stage_7 : decode mb_X5_stage 7 = .ok (.iload_n 0, 1) := by decide +kernel
theorem dd_X5_stage_8 : decode mb_X5_stage 8 = .ok (.iload_n 1, 1) := by decide +kernel
theorem dd_X5_stage_9 : decode mb_X5_stage 9 = .ok (.if_icmp .lt 7, 3) := by decide +kernel
theorem dd_X5_stage_12 : decode mb_X5_stage 12 = .ok (.iconst 1, 1) := by decide +kernel
theorem dd_X5_stage_13 : decode mb_X5_stage 13 = .ok (.goto 4, 3) := by decide +kernel
theorem dd_X5_stage_16 : decode mb_X5_stage 16 = .ok (.iconst 0, 1) := by decide +kernel
theorem dd_X5_stage_17 : decode mb_X5_stage 17 = .ok (.ireturn, 1) := by decide +kernel
theorem dd_X5_wholeDay_0 : decode mb_X5_wholeDay 0 = .ok (.aload_n 0, 1) := by decide +kernel
theorem dd_X5_wholeDay_1 : decode mb_X5_wholeDay 1 = .ok (.aload_n 1, 1) := by decide +kernel
theorem dd_X5_wholeDay_2 : decode mb_X5_wholeDay 2 = .ok (.iload_n 2, 1) := by decide +kernel
theorem dd_X5_wholeDay_3 : decode mb_X5_wholeDay 3 = .ok (.iload_n 3, 1) := by decide +kernel
theorem dd_X5_wholeDay_4 : decode mb_X5_wholeDay 4 = .ok (.invokevirtual 104, 3) := by decide +kernel
theorem dd_X5_wholeDay_7 : decode mb_X5_wholeDay 7 = .ok (.iconst 0, 1) := by decide +kernel
theorem dd_X5_wholeDay_8 : decode mb_X5_wholeDay 8 = .ok (.istore 4, 2) := by decide +kernel
theorem dd_X5_wholeDay_10 : decode mb_X5_wholeDay 10 = .ok (.iconst 0, 1) := by decide +kernel
theorem dd_X5_wholeDay_11 : decode mb_X5_wholeDay 11 = .ok (.istore 5, 2) := by decide +kernel
theorem dd_X5_wholeDay_13 : decode mb_X5_wholeDay 13 = .ok (.iload 5, 2) := by decide +kernel
theorem dd_X5_wholeDay_15 : decode mb_X5_wholeDay 15 = .ok (.bipush 12, 2) := by decide +kernel
theorem dd_X5_wholeDay_17 : decode mb_X5_wholeDay 17 = .ok (.if_icmp .ge 21, 3) := by decide +kernel
theorem dd_X5_wholeDay_20 : decode mb_X5_wholeDay 20 = .ok (.iload 4, 2) := by decide +kernel
theorem dd_X5_wholeDay_22 : decode mb_X5_wholeDay 22 = .ok (.aload_n 0, 1) := by decide +kernel
theorem dd_X5_wholeDay_23 : decode mb_X5_wholeDay 23 = .ok (.aload_n 1, 1) := by decide +kernel
theorem dd_X5_wholeDay_24 : decode mb_X5_wholeDay 24 = .ok (.iload 5, 2) := by decide +kernel
theorem dd_X5_wholeDay_26 : decode mb_X5_wholeDay 26 = .ok (.invokevirtual 108, 3) := by decide +kernel
theorem dd_X5_wholeDay_29 : decode mb_X5_wholeDay 29 = .ok (.iadd, 1) := by decide +kernel
theorem dd_X5_wholeDay_30 : decode mb_X5_wholeDay 30 = .ok (.istore 4, 2) := by decide +kernel
theorem dd_X5_wholeDay_32 : decode mb_X5_wholeDay 32 = .ok (.iinc 5 1, 3) := by decide +kernel
theorem dd_X5_wholeDay_35 : decode mb_X5_wholeDay 35 = .ok (.goto (-22), 3) := by decide +kernel
theorem dd_X5_wholeDay_38 : decode mb_X5_wholeDay 38 = .ok (.iload 4, 2) := by decide +kernel
theorem dd_X5_wholeDay_40 : decode mb_X5_wholeDay 40 = .ok (.ireturn, 1) := by decide +kernel
theorem dd_X7_at_0 : decode mb_X7_at 0 = .ok (.aload_n 0, 1) := by decide +kernel
theorem dd_X7_at_1 : decode mb_X7_at 1 = .ok (.invokevirtual 32, 3) := by decide +kernel
theorem dd_X7_at_4 : decode mb_X7_at 4 = .ok (.ifCond .eq 26, 3) := by decide +kernel
theorem dd_X7_at_30 : decode mb_X7_at 30 = .ok (.lconst 0, 1) := by decide +kernel
theorem dd_X7_at_31 : decode mb_X7_at 31 = .ok (.lreturn, 1) := by decide +kernel
theorem dd_X7_hasRow_0 : decode mb_X7_hasRow 0 = .ok (.aload_n 0, 1) := by decide +kernel
theorem dd_X7_hasRow_1 : decode mb_X7_hasRow 1 = .ok (.getfield 15, 3) := by decide +kernel
theorem dd_X7_hasRow_4 : decode mb_X7_hasRow 4 = .ok (.iconst 0, 1) := by decide +kernel
theorem dd_X7_hasRow_5 : decode mb_X7_hasRow 5 = .ok (.iconst 4, 1) := by decide +kernel
theorem dd_X7_hasRow_6 : decode mb_X7_hasRow 6 = .ok (.invokestatic 22, 3) := by decide +kernel
theorem dd_X7_hasRow_9 : decode mb_X7_hasRow 9 = .ok (.ireturn, 1) := by decide +kernel
theorem dd_X7_hasThing_0 : decode mb_X7_hasThing 0 = .ok (.aload_n 0, 1) := by decide +kernel
theorem dd_X7_hasThing_1 : decode mb_X7_hasThing 1 = .ok (.getfield 15, 3) := by decide +kernel
theorem dd_X7_hasThing_4 : decode mb_X7_hasThing 4 = .ok (.bipush 10, 2) := by decide +kernel
theorem dd_X7_hasThing_6 : decode mb_X7_hasThing 6 = .ok (.if_icmp .lt 7, 3) := by decide +kernel
theorem dd_X7_hasThing_13 : decode mb_X7_hasThing 13 = .ok (.iconst 0, 1) := by decide +kernel
theorem dd_X7_hasThing_14 : decode mb_X7_hasThing 14 = .ok (.ireturn, 1) := by decide +kernel
theorem dd_X7_isEmpty_0 : decode mb_X7_isEmpty 0 = .ok (.aload_n 0, 1) := by decide +kernel
theorem dd_X7_isEmpty_1 : decode mb_X7_isEmpty 1 = .ok (.getfield 15, 3) := by decide +kernel
theorem dd_X7_isEmpty_4 : decode mb_X7_isEmpty 4 = .ok (.iconst (-1), 1) := by decide +kernel
theorem dd_X7_isEmpty_5 : decode mb_X7_isEmpty 5 = .ok (.if_icmp .ne 7, 3) := by decide +kernel
theorem dd_X7_isEmpty_8 : decode mb_X7_isEmpty 8 = .ok (.iconst 1, 1) := by decide +kernel
theorem dd_X7_isEmpty_9 : decode mb_X7_isEmpty 9 = .ok (.goto 4, 3) := by decide +kernel
theorem dd_X7_isEmpty_13 : decode mb_X7_isEmpty 13 = .ok (.ireturn, 1) := by decide +kernel
theorem dd_X7_takeRow_0 : decode mb_X7_takeRow 0 = .ok (.aload_n 0, 1) := by decide +kernel
theorem dd_X7_takeRow_1 : decode mb_X7_takeRow 1 = .ok (.iload_n 1, 1) := by decide +kernel
theorem dd_X7_takeRow_2 : decode mb_X7_takeRow 2 = .ok (.putfield 15, 3) := by decide +kernel
theorem dd_X7_takeRow_5 : decode mb_X7_takeRow 5 = .ok (.aload_n 0, 1) := by decide +kernel
theorem dd_X7_takeRow_6 : decode mb_X7_takeRow 6 = .ok (.iload_n 2, 1) := by decide +kernel
theorem dd_X7_takeRow_7 : decode mb_X7_takeRow 7 = .ok (.putfield 19, 3) := by decide +kernel
theorem dd_X7_takeRow_10 : decode mb_X7_takeRow 10 = .ok (.aload_n 0, 1) := by decide +kernel
theorem dd_X7_takeRow_11 : decode mb_X7_takeRow 11 = .ok (.getfield 9, 3) := by decide +kernel
theorem dd_X7_takeRow_14 : decode mb_X7_takeRow 14 = .ok (.lconst 0, 1) := by decide +kernel
theorem dd_X7_takeRow_15 : decode mb_X7_takeRow 15 = .ok (.invokestatic 26, 3) := by decide +kernel
theorem dd_X7_takeRow_18 : decode mb_X7_takeRow 18 = .ok (.return_, 1) := by decide +kernel
theorem dd_X8_add_0 : decode mb_X8_add 0 = .ok (.aload_n 0, 1) := by decide +kernel
theorem dd_X8_add_1 : decode mb_X8_add 1 = .ok (.getfield 9, 3) := by decide +kernel
theorem dd_X8_add_4 : decode mb_X8_add 4 = .ok (.aload_n 0, 1) := by decide +kernel
theorem dd_X8_add_5 : decode mb_X8_add 5 = .ok (.getfield 24, 3) := by decide +kernel
theorem dd_X8_add_8 : decode mb_X8_add 8 = .ok (.iload_n 1, 1) := by decide +kernel
theorem dd_X8_add_9 : decode mb_X8_add 9 = .ok (.iastore, 1) := by decide +kernel
theorem dd_X8_add_10 : decode mb_X8_add 10 = .ok (.aload_n 0, 1) := by decide +kernel
theorem dd_X8_add_11 : decode mb_X8_add 11 = .ok (.getfield 15, 3) := by decide +kernel
theorem dd_X8_add_14 : decode mb_X8_add 14 = .ok (.aload_n 0, 1) := by decide +kernel
theorem dd_X8_add_15 : decode mb_X8_add 15 = .ok (.getfield 24, 3) := by decide +kernel
theorem dd_X8_add_18 : decode mb_X8_add 18 = .ok (.iload_n 2, 1) := by decide +kernel
theorem dd_X8_add_19 : decode mb_X8_add 19 = .ok (.iastore, 1) := by decide +kernel
theorem dd_X8_add_20 : decode mb_X8_add 20 = .ok (.aload_n 0, 1) := by decide +kernel
theorem dd_X8_add_21 : decode mb_X8_add 21 = .ok (.getfield 18, 3) := by decide +kernel
theorem dd_X8_add_24 : decode mb_X8_add 24 = .ok (.aload_n 0, 1) := by decide +kernel
theorem dd_X8_add_25 : decode mb_X8_add 25 = .ok (.getfield 24, 3) := by decide +kernel
theorem dd_X8_add_28 : decode mb_X8_add 28 = .ok (.iload_n 3, 1) := by decide +kernel
theorem dd_X8_add_29 : decode mb_X8_add 29 = .ok (.iastore, 1) := by decide +kernel
theorem dd_X8_add_30 : decode mb_X8_add 30 = .ok (.aload_n 0, 1) := by decide +kernel
theorem dd_X8_add_31 : decode mb_X8_add 31 = .ok (.getfield 21, 3) := by decide +kernel
theorem dd_X8_add_34 : decode mb_X8_add 34 = .ok (.aload_n 0, 1) := by decide +kernel
theorem dd_X8_add_35 : decode mb_X8_add 35 = .ok (.getfield 24, 3) := by decide +kernel
theorem dd_X8_add_38 : decode mb_X8_add 38 = .ok (.iload 4, 2) := by decide +kernel
theorem dd_X8_add_40 : decode mb_X8_add 40 = .ok (.iastore, 1) := by decide +kernel
theorem dd_X8_add_41 : decode mb_X8_add 41 = .ok (.aload_n 0, 1) := by decide +kernel
theorem dd_X8_add_42 : decode mb_X8_add 42 = .ok (.dup, 1) := by decide +kernel
theorem dd_X8_add_43 : decode mb_X8_add 43 = .ok (.getfield 24, 3) := by decide +kernel
theorem dd_X8_add_46 : decode mb_X8_add 46 = .ok (.iconst 1, 1) := by decide +kernel
theorem dd_X8_add_47 : decode mb_X8_add 47 = .ok (.iadd, 1) := by decide +kernel
theorem dd_X8_add_48 : decode mb_X8_add 48 = .ok (.putfield 24, 3) := by decide +kernel
theorem dd_X8_add_51 : decode mb_X8_add 51 = .ok (.aload_n 0, 1) := by decide +kernel
theorem dd_X8_add_52 : decode mb_X8_add 52 = .ok (.getfield 24, 3) := by decide +kernel
theorem dd_X8_add_55 : decode mb_X8_add 55 = .ok (.iconst 1, 1) := by decide +kernel
theorem dd_X8_add_56 : decode mb_X8_add 56 = .ok (.isub, 1) := by decide +kernel
theorem dd_X8_add_57 : decode mb_X8_add 57 = .ok (.ireturn, 1) := by decide +kernel
theorem dd_X8_fewestVases_0 : decode mb_X8_fewestVases 0 = .ok (.aload_n 0, 1) := by decide +kernel
theorem dd_X8_fewestVases_1 : decode mb_X8_fewestVases 1 = .ok (.getfield 28, 3) := by decide +kernel
theorem dd_X8_fewestVases_4 : decode mb_X8_fewestVases 4 = .ok (.iconst (-1), 1) := by decide +kernel
theorem dd_X8_fewestVases_5 : decode mb_X8_fewestVases 5 = .ok (.invokestatic 41, 3) := by decide +kernel
theorem dd_X8_fewestVases_8 : decode mb_X8_fewestVases 8 = .ok (.iconst 0, 1) := by decide +kernel
theorem dd_X8_fewestVases_9 : decode mb_X8_fewestVases 9 = .ok (.istore_n 1, 1) := by decide +kernel
theorem dd_X8_fewestVases_10 : decode mb_X8_fewestVases 10 = .ok (.iconst 0, 1) := by decide +kernel
theorem dd_X8_fewestVases_11 : decode mb_X8_fewestVases 11 = .ok (.istore_n 2, 1) := by decide +kernel
theorem dd_X8_fewestVases_12 : decode mb_X8_fewestVases 12 = .ok (.iload_n 2, 1) := by decide +kernel
theorem dd_X8_fewestVases_13 : decode mb_X8_fewestVases 13 = .ok (.aload_n 0, 1) := by decide +kernel
theorem dd_X8_fewestVases_14 : decode mb_X8_fewestVases 14 = .ok (.getfield 24, 3) := by decide +kernel
theorem dd_X8_fewestVases_17 : decode mb_X8_fewestVases 17 = .ok (.if_icmp .ge 29, 3) := by decide +kernel
theorem dd_X8_fewestVases_46 : decode mb_X8_fewestVases 46 = .ok (.aload_n 0, 1) := by decide +kernel
theorem dd_X8_fewestVases_47 : decode mb_X8_fewestVases 47 = .ok (.getfield 24, 3) := by decide +kernel
theorem dd_X8_fewestVases_50 : decode mb_X8_fewestVases 50 = .ok (.iload_n 1, 1) := by decide +kernel
theorem dd_X8_fewestVases_51 : decode mb_X8_fewestVases 51 = .ok (.isub, 1) := by decide +kernel
theorem dd_X8_fewestVases_52 : decode mb_X8_fewestVases 52 = .ok (.ireturn, 1) := by decide +kernel
theorem dd_X8_has_0 : decode mb_X8_has 0 = .ok (.iload_n 1, 1) := by decide +kernel
theorem dd_X8_has_1 : decode mb_X8_has 1 = .ok (.iconst 0, 1) := by decide +kernel
theorem dd_X8_has_2 : decode mb_X8_has 2 = .ok (.aload_n 0, 1) := by decide +kernel
theorem dd_X8_has_3 : decode mb_X8_has 3 = .ok (.getfield 24, 3) := by decide +kernel
theorem dd_X8_has_6 : decode mb_X8_has 6 = .ok (.iconst 1, 1) := by decide +kernel
theorem dd_X8_has_7 : decode mb_X8_has 7 = .ok (.isub, 1) := by decide +kernel
theorem dd_X8_has_8 : decode mb_X8_has 8 = .ok (.invokestatic 37, 3) := by decide +kernel
theorem dd_X8_has_11 : decode mb_X8_has 11 = .ok (.ireturn, 1) := by decide +kernel
theorem dd_X8_longestRow_0 : decode mb_X8_longestRow 0 = .ok (.iconst 0, 1) := by decide +kernel
theorem dd_X8_longestRow_1 : decode mb_X8_longestRow 1 = .ok (.istore_n 1, 1) := by decide +kernel
theorem dd_X8_longestRow_2 : decode mb_X8_longestRow 2 = .ok (.iconst 0, 1) := by decide +kernel
theorem dd_X8_longestRow_3 : decode mb_X8_longestRow 3 = .ok (.istore_n 2, 1) := by decide +kernel
theorem dd_X8_longestRow_4 : decode mb_X8_longestRow 4 = .ok (.iload_n 2, 1) := by decide +kernel
theorem dd_X8_longestRow_5 : decode mb_X8_longestRow 5 = .ok (.bipush 99, 2) := by decide +kernel
theorem dd_X8_longestRow_7 : decode mb_X8_longestRow 7 = .ok (.if_icmp .gt 59, 3) := by decide +kernel
theorem dd_X8_longestRow_10 : decode mb_X8_longestRow 10 = .ok (.iconst 0, 1) := by decide +kernel
theorem dd_X8_longestRow_11 : decode mb_X8_longestRow 11 = .ok (.istore_n 3, 1) := by decide +kernel
theorem dd_X8_longestRow_12 : decode mb_X8_longestRow 12 = .ok (.iload_n 3, 1) := by decide +kernel
theorem dd_X8_longestRow_13 : decode mb_X8_longestRow 13 = .ok (.aload_n 0, 1) := by decide +kernel
theorem dd_X8_longestRow_14 : decode mb_X8_longestRow 14 = .ok (.getfield 24, 3) := by decide +kernel
theorem dd_X8_longestRow_17 : decode mb_X8_longestRow 17 = .ok (.if_icmp .ge 43, 3) := by decide +kernel
theorem dd_X8_longestRow_60 : decode mb_X8_longestRow 60 = .ok (.iinc 2 1, 3) := by decide +kernel
theorem dd_X8_longestRow_63 : decode mb_X8_longestRow 63 = .ok (.goto (-59), 3) := by decide +kernel
theorem dd_X8_longestRow_66 : decode mb_X8_longestRow 66 = .ok (.iload_n 1, 1) := by decide +kernel
theorem dd_X8_longestRow_67 : decode mb_X8_longestRow 67 = .ok (.ireturn, 1) := by decide +kernel
