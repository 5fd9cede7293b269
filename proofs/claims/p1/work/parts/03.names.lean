/-! names, fields, words (out of the class files' tables, by a program of this repository) -/
def ET0 : u_T := fun k => match k with
  | 0 => ("WhiteElephants$Buyers", "hour", "[I", true)
  | 1 => ("WhiteElephants$Buyers", "purse", "[I", true)
  | 2 => ("WhiteElephants$Buyers", "wishes", "[I", true)
  | 3 => ("WhiteElephants$Buyers", "eye", "[I", true)
  | 4 => ("WhiteElephants$Buyers", "bought", "[I", true)
  | _ => ("WhiteElephants$Buyers", "count", "I", false)
def EY0 : Nat → FieldType := fun k => match k with
  | 0 => .array .int
  | 1 => .array .int
  | 2 => .array .int
  | 3 => .array .int
  | 4 => .array .int
  | _ => .int
def ET1 : u_T := fun k => match k with
  | 0 => ("WhiteElephants$Hall", "things", "LWhiteElephants$Things;", true)
  | 1 => ("WhiteElephants$Hall", "ladies", "LWhiteElephants$Ladies;", true)
  | 2 => ("WhiteElephants$Hall", "laws", "LWhiteElephants$Laws;", true)
  | 3 => ("WhiteElephants$Hall", "buyers", "LWhiteElephants$Buyers;", true)
  | 4 => ("WhiteElephants$Hall", "sightings", "LWhiteElephants$Sightings;", true)
  | 5 => ("WhiteElephants$Hall", "secrets", "LWhiteElephants$Secrets;", true)
  | 6 => ("WhiteElephants$Hall", "tables", "[I", true)
  | 7 => ("WhiteElephants$Hall", "tableCount", "I", false)
  | 8 => ("WhiteElephants$Hall", "half", "I", false)
  | 9 => ("WhiteElephants$Hall", "bag", "I", false)
  | 10 => ("WhiteElephants$Hall", "hour", "I", false)
  | 11 => ("WhiteElephants$Hall", "taken", "I", false)
  | 12 => ("WhiteElephants$Hall", "lostAt", "[I", true)
  | _ => ("WhiteElephants$Hall", "leastLost", "[I", true)
def EY1 : Nat → FieldType := fun k => match k with
  | 0 => .object "WhiteElephants$Things"
  | 1 => .object "WhiteElephants$Ladies"
  | 2 => .object "WhiteElephants$Laws"
  | 3 => .object "WhiteElephants$Buyers"
  | 4 => .object "WhiteElephants$Sightings"
  | 5 => .object "WhiteElephants$Secrets"
  | 6 => .array .int
  | 7 => .int
  | 8 => .int
  | 9 => .int
  | 10 => .int
  | 11 => .int
  | 12 => .array .int
  | _ => .array .int
def ET2 : u_T := fun k => match k with
  | 0 => ("WhiteElephants$Ladies", "knows", "[I", true)
  | 1 => ("WhiteElephants$Ladies", "guess", "[I", true)
  | 2 => ("WhiteElephants$Ladies", "law", "[I", true)
  | _ => ("WhiteElephants$Ladies", "count", "I", false)
def EY2 : Nat → FieldType := fun k => match k with
  | 0 => .array .int
  | 1 => .array .int
  | 2 => .array .int
  | _ => .int
def ET3 : u_T := fun k => match k with
  | 0 => ("WhiteElephants$Laws", "parts", "[I", true)
  | 1 => ("WhiteElephants$Laws", "draft", "[I", true)
  | _ => ("WhiteElephants$Laws", "count", "I", false)
def EY3 : Nat → FieldType := fun k => match k with
  | 0 => .array .int
  | 1 => .array .int
  | _ => .int
def ET4 : u_T := fun k => match k with
  | 0 => ("WhiteElephants$Picks", "sets", "[I", true)
  | _ => ("WhiteElephants$Picks", "gains", "[I", true)
def EY4 : Nat → FieldType := fun k => match k with
  | 0 => .array .int
  | _ => .array .int
def ET5 : u_T := fun k => match k with
  | 0 => ("WhiteElephants$Sale", "half", "I", false)
  | 1 => ("WhiteElephants$Sale", "bag", "I", false)
  | 2 => ("WhiteElephants$Sale", "left", "[I", true)
  | 3 => ("WhiteElephants$Sale", "leftCount", "I", false)
  | 4 => ("WhiteElephants$Sale", "truth", "[I", true)
  | 5 => ("WhiteElephants$Sale", "buyer", "[I", true)
  | 6 => ("WhiteElephants$Sale", "paid", "[I", true)
  | 7 => ("WhiteElephants$Sale", "purse", "[I", true)
  | _ => ("WhiteElephants$Sale", "idle", "[I", true)
def EY5 : Nat → FieldType := fun k => match k with
  | 0 => .int
  | 1 => .int
  | 2 => .array .int
  | 3 => .int
  | 4 => .array .int
  | 5 => .array .int
  | 6 => .array .int
  | 7 => .array .int
  | _ => .array .int
def ET6 : u_T := fun k => match k with
  | 0 => ("WhiteElephants$Secrets", "thing", "[I", true)
  | 1 => ("WhiteElephants$Secrets", "person", "[I", true)
  | 2 => ("WhiteElephants$Secrets", "count", "I", false)
  | 3 => ("WhiteElephants$Secrets", "sees", "[I", true)
  | 4 => ("WhiteElephants$Secrets", "hidden", "[I", true)
  | 5 => ("WhiteElephants$Secrets", "safe", "[I", true)
  | 6 => ("WhiteElephants$Secrets", "lies", "[I", true)
  | 7 => ("WhiteElephants$Secrets", "hiddenCount", "I", false)
  | _ => ("WhiteElephants$Secrets", "space", "[I", true)
def EY6 : Nat → FieldType := fun k => match k with
  | 0 => .array .int
  | 1 => .array .int
  | 2 => .int
  | 3 => .array .int
  | 4 => .array .int
  | 5 => .array .int
  | 6 => .array .int
  | 7 => .int
  | _ => .array .int
def ET7 : u_T := fun k => match k with
  | 0 => ("WhiteElephants$Shelf", "elements", "[J", true)
  | 1 => ("WhiteElephants$Shelf", "held", "I", false)
  | _ => ("WhiteElephants$Shelf", "size", "I", false)
def EY7 : Nat → FieldType := fun k => match k with
  | 0 => .array .long
  | 1 => .int
  | _ => .int
def ET8 : u_T := fun k => match k with
  | 0 => ("WhiteElephants$Sightings", "year", "[I", true)
  | 1 => ("WhiteElephants$Sightings", "chips", "[I", true)
  | 2 => ("WhiteElephants$Sightings", "gave", "[I", true)
  | 3 => ("WhiteElephants$Sightings", "bought", "[I", true)
  | 4 => ("WhiteElephants$Sightings", "count", "I", false)
  | 5 => ("WhiteElephants$Sightings", "before", "[I", true)
  | 6 => ("WhiteElephants$Sightings", "tried", "[I", true)
  | _ => ("WhiteElephants$Sightings", "length", "[I", true)
def EY8 : Nat → FieldType := fun k => match k with
  | 0 => .array .int
  | 1 => .array .int
  | 2 => .array .int
  | 3 => .array .int
  | 4 => .int
  | 5 => .array .int
  | 6 => .array .int
  | _ => .array .int
def ET9 : u_T := fun k => match k with
  | 0 => ("WhiteElephants$Tape", "bytes", "[B", true)
  | 1 => ("WhiteElephants$Tape", "size", "I", false)
  | 2 => ("WhiteElephants$Tape", "begin", "I", false)
  | _ => ("WhiteElephants$Tape", "end", "I", false)
def EY9 : Nat → FieldType := fun k => match k with
  | 0 => .array .byte
  | 1 => .int
  | 2 => .int
  | _ => .int
def ET10 : u_T := fun k => match k with
  | 0 => ("WhiteElephants$Things", "kind", "[I", true)
  | 1 => ("WhiteElephants$Things", "worth", "[I", true)
  | 2 => ("WhiteElephants$Things", "chips", "[I", true)
  | 3 => ("WhiteElephants$Things", "price", "[I", true)
  | 4 => ("WhiteElephants$Things", "buyer", "[I", true)
  | 5 => ("WhiteElephants$Things", "paid", "[I", true)
  | 6 => ("WhiteElephants$Things", "count", "I", false)
  | _ => ("WhiteElephants$Things", "sharedTo", "[I", true)
def EY10 : Nat → FieldType := fun k => match k with
  | 0 => .array .int
  | 1 => .array .int
  | 2 => .array .int
  | 3 => .array .int
  | 4 => .array .int
  | 5 => .array .int
  | 6 => .int
  | _ => .array .int
def ET11 : u_T := fun k => match k with
  | 0 => ("WhiteElephants", "shelves", "[LWhiteElephants$Shelf;", true)
  | 1 => ("WhiteElephants", "refusals", "[I", true)
  | 2 => ("WhiteElephants", "tape", "LWhiteElephants$Tape;", true)
  | 3 => ("WhiteElephants", "now", "LWhiteElephants$Hall;", true)
  | 4 => ("WhiteElephants", "kept", "LWhiteElephants$Hall;", true)
  | 5 => ("WhiteElephants", "sale", "LWhiteElephants$Sale;", true)
  | 6 => ("WhiteElephants", "picks", "LWhiteElephants$Picks;", true)
  | _ => ("WhiteElephants", "imaged", "Z", false)
def EY11 : Nat → FieldType := fun k => match k with
  | 0 => .array (.object "WhiteElephants$Shelf")
  | 1 => .array .int
  | 2 => .object "WhiteElephants$Tape"
  | 3 => .object "WhiteElephants$Hall"
  | 4 => .object "WhiteElephants$Hall"
  | 5 => .object "WhiteElephants$Sale"
  | 6 => .object "WhiteElephants$Picks"
  | _ => .boolean
def ET12 : u_T := fun k => match k with
  | 0 => ("WhiteElephantsModel", "holding", "[I", true)
  | 1 => ("WhiteElephantsModel", "rowLength", "[I", true)
  | 2 => ("WhiteElephantsModel", "rowOf", "[J", true)
  | 3 => ("WhiteElephantsModel", "things", "I", false)
  | 4 => ("WhiteElephantsModel", "thKind", "[I", true)
  | 5 => ("WhiteElephantsModel", "thWorth", "[I", true)
  | 6 => ("WhiteElephantsModel", "thChips", "[I", true)
  | 7 => ("WhiteElephantsModel", "thPrice", "[I", true)
  | 8 => ("WhiteElephantsModel", "thBy", "[I", true)
  | 9 => ("WhiteElephantsModel", "thPaid", "[I", true)
  | 10 => ("WhiteElephantsModel", "ladies", "I", false)
  | 11 => ("WhiteElephantsModel", "laKnows", "[I", true)
  | 12 => ("WhiteElephantsModel", "laGuess", "[I", true)
  | 13 => ("WhiteElephantsModel", "laLaw", "[I", true)
  | 14 => ("WhiteElephantsModel", "laws", "I", false)
  | 15 => ("WhiteElephantsModel", "lawSays", "[I", true)
  | 16 => ("WhiteElephantsModel", "tapeSize", "I", false)
  | 17 => ("WhiteElephantsModel", "tape", "[I", true)
  | 18 => ("WhiteElephantsModel", "buyers", "I", false)
  | 19 => ("WhiteElephantsModel", "buHour", "[I", true)
  | 20 => ("WhiteElephantsModel", "buPurse", "[I", true)
  | 21 => ("WhiteElephantsModel", "buWishes", "[I", true)
  | 22 => ("WhiteElephantsModel", "buEye", "[I", true)
  | 23 => ("WhiteElephantsModel", "buMany", "[I", true)
  | 24 => ("WhiteElephantsModel", "tables", "I", false)
  | 25 => ("WhiteElephantsModel", "taKinds", "[I", true)
  | 26 => ("WhiteElephantsModel", "sightings", "I", false)
  | 27 => ("WhiteElephantsModel", "siYear", "[I", true)
  | 28 => ("WhiteElephantsModel", "siChips", "[I", true)
  | 29 => ("WhiteElephantsModel", "siGave", "[I", true)
  | 30 => ("WhiteElephantsModel", "siBought", "[I", true)
  | 31 => ("WhiteElephantsModel", "secrets", "I", false)
  | 32 => ("WhiteElephantsModel", "seThing", "[I", true)
  | 33 => ("WhiteElephantsModel", "sePerson", "[I", true)
  | 34 => ("WhiteElephantsModel", "looksAt", "[I", true)
  | 35 => ("WhiteElephantsModel", "hours", "[I", true)
  | 36 => ("WhiteElephantsModel", "refusals", "[I", true)
  | 37 => ("WhiteElephantsModel", "isImage", "Z", false)
  | 38 => ("WhiteElephantsModel", "kept", "[I", true)
  | 39 => ("WhiteElephantsModel", "counts", "[I", true)
  | 40 => ("WhiteElephantsModel", "gone", "[Z", true)
  | 41 => ("WhiteElephantsModel", "purse", "[I", true)
  | 42 => ("WhiteElephantsModel", "best", "[I", true)
  | 43 => ("WhiteElephantsModel", "mate", "[I", true)
  | 44 => ("WhiteElephantsModel", "mateOf", "[I", true)
  | 45 => ("WhiteElephantsModel", "from", "[I", true)
  | 46 => ("WhiteElephantsModel", "line", "[I", true)
  | 47 => ("WhiteElephantsModel", "may", "[I", true)
  | 48 => ("WhiteElephantsModel", "room", "[I", true)
  | 49 => ("WhiteElephantsModel", "loses", "[I", true)
  | _ => ("WhiteElephantsModel", "fewest", "[B", false)
def EY12 : Nat → FieldType := fun k => match k with
  | 0 => .array .int
  | 1 => .array .int
  | 2 => .array .long
  | 3 => .int
  | 4 => .array .int
  | 5 => .array .int
  | 6 => .array .int
  | 7 => .array .int
  | 8 => .array .int
  | 9 => .array .int
  | 10 => .int
  | 11 => .array .int
  | 12 => .array .int
  | 13 => .array .int
  | 14 => .int
  | 15 => .array .int
  | 16 => .int
  | 17 => .array .int
  | 18 => .int
  | 19 => .array .int
  | 20 => .array .int
  | 21 => .array .int
  | 22 => .array .int
  | 23 => .array .int
  | 24 => .int
  | 25 => .array .int
  | 26 => .int
  | 27 => .array .int
  | 28 => .array .int
  | 29 => .array .int
  | 30 => .array .int
  | 31 => .int
  | 32 => .array .int
  | 33 => .array .int
  | 34 => .array .int
  | 35 => .array .int
  | 36 => .array .int
  | 37 => .boolean
  | 38 => .array .int
  | 39 => .array .int
  | 40 => .array .boolean
  | 41 => .array .int
  | 42 => .array .int
  | 43 => .array .int
  | 44 => .array .int
  | 45 => .array .int
  | 46 => .array .int
  | 47 => .array .int
  | 48 => .array .int
  | 49 => .array .int
  | _ => .array .byte
abbrev cls : List vw_C := [("WhiteElephants$Buyers", ET0, 6), ("WhiteElephants$Hall", ET1, 14), ("WhiteElephants$Ladies", ET2, 4), ("WhiteElephants$Laws", ET3, 3), ("WhiteElephants$Picks", ET4, 2), ("WhiteElephants$Sale", ET5, 9), ("WhiteElephants$Secrets", ET6, 9), ("WhiteElephants$Shelf", ET7, 3), ("WhiteElephants$Sightings", ET8, 8), ("WhiteElephants$Tape", ET9, 4), ("WhiteElephants$Things", ET10, 8), ("WhiteElephants", ET11, 8), ("WhiteElephantsModel", ET12, 51)]
theorem bw_ps (ws : List Cond) (ps : List Nat) (hp : ws = ps.filterMap (fun i => lw_tbl[i]?)) (hg : ws.all goodWord = true) : ∀ w ∈ ws, w ∈ BW := by
  intro w hw
  have h1 := List.all_eq_true.mp hg w hw
  rw [hp] at hw
  obtain ⟨i, -, hi⟩ := List.mem_filterMap.mp hw
  exact bw_at i hi h1
abbrev mb_J6_bitCount_0f7a4 : ByteArray := prog_15_method_49_code
abbrev my_J6_bitCount_0f7a4 : MethodName := ⟨"java/lang/Integer", "bitCount", "(I)I"⟩
theorem md_J6_bitCount_0f7a4 : MD my_J6_bitCount_0f7a4 1 := ⟨by decide, by decide, by decide +kernel⟩
abbrev mb_J7_fill_53178 : ByteArray := prog_21_method_103_code
abbrev my_J7_fill_53178 : MethodName := ⟨"java/util/Arrays", "fill", "([II)V"⟩
theorem md_J7_fill_53178 : MD my_J7_fill_53178 2 := ⟨by decide, by decide, by decide +kernel⟩
abbrev mb_J7_fill_d0a16 : ByteArray := prog_21_method_101_code
abbrev my_J7_fill_d0a16 : MethodName := ⟨"java/util/Arrays", "fill", "([JJ)V"⟩
theorem md_J7_fill_d0a16 : MD my_J7_fill_d0a16 2 := ⟨by decide, by decide, by decide +kernel⟩
abbrev mb_X0_add : ByteArray := prog_2_method_3_code
abbrev my_X0_add : MethodName := ⟨"WhiteElephants$Buyers", "add", "(IIII)I"⟩
theorem md_X0_add : MD my_X0_add 4 := ⟨by decide, by decide, by decide +kernel⟩
abbrev mb_X0_become : ByteArray := prog_2_method_4_code
abbrev my_X0_become : MethodName := ⟨"WhiteElephants$Buyers", "become", "(LWhiteElephants$Buyers;)V"⟩
theorem md_X0_become : MD my_X0_become 1 := ⟨by decide, by decide, by decide +kernel⟩
abbrev mb_X0_has : ByteArray := prog_2_method_2_code
abbrev my_X0_has : MethodName := ⟨"WhiteElephants$Buyers", "has", "(I)Z"⟩
theorem md_X0_has : MD my_X0_has 1 := ⟨by decide, by decide, by decide +kernel⟩
abbrev mb_X10_add : ByteArray := prog_12_method_3_code
abbrev my_X10_add : MethodName := ⟨"WhiteElephants$Things", "add", "(III)I"⟩
theorem md_X10_add : MD my_X10_add 3 := ⟨by decide, by decide, by decide +kernel⟩
abbrev mb_X10_become : ByteArray := prog_12_method_17_code
abbrev my_X10_become : MethodName := ⟨"WhiteElephants$Things", "become", "(LWhiteElephants$Things;)V"⟩
theorem md_X10_become : MD my_X10_become 1 := ⟨by decide, by decide, by decide +kernel⟩
abbrev mb_X10_countLeft : ByteArray := prog_12_method_13_code
abbrev my_X10_countLeft : MethodName := ⟨"WhiteElephants$Things", "countLeft", "()I"⟩
theorem md_X10_countLeft : MD my_X10_countLeft 0 := ⟨by decide, by decide, by decide +kernel⟩
abbrev mb_X10_has : ByteArray := prog_12_method_2_code
abbrev my_X10_has : MethodName := ⟨"WhiteElephants$Things", "has", "(I)Z"⟩
theorem md_X10_has : MD my_X10_has 1 := ⟨by decide, by decide, by decide +kernel⟩
abbrev mb_X10_worthLeft : ByteArray := prog_12_method_14_code
abbrev my_X10_worthLeft : MethodName := ⟨"WhiteElephants$Things", "worthLeft", "(I)I"⟩
theorem md_X10_worthLeft : MD my_X10_worthLeft 1 := ⟨by decide, by decide, by decide +kernel⟩
abbrev mb_X11_back : ByteArray := prog_1_method_48_code
abbrev my_X11_back : MethodName := ⟨"WhiteElephants", "back", "()I"⟩
theorem md_X11_back : MD my_X11_back 0 := ⟨by decide, by decide, by decide +kernel⟩
abbrev mb_X11_best : ByteArray := prog_1_method_28_code
abbrev my_X11_best : MethodName := ⟨"WhiteElephants", "best", "()I"⟩
theorem md_X11_best : MD my_X11_best 0 := ⟨by decide, by decide, by decide +kernel⟩
abbrev mb_X11_buyer : ByteArray := prog_1_method_22_code
abbrev my_X11_buyer : MethodName := ⟨"WhiteElephants", "buyer", "(IIII)I"⟩
theorem md_X11_buyer : MD my_X11_buyer 4 := ⟨by decide, by decide, by decide +kernel⟩
abbrev mb_X11_buyerOf : ByteArray := prog_1_method_23_code
abbrev my_X11_buyerOf : MethodName := ⟨"WhiteElephants", "buyerOf", "(II)I"⟩
theorem md_X11_buyerOf : MD my_X11_buyerOf 2 := ⟨by decide, by decide, by decide +kernel⟩
abbrev mb_X11_chip : ByteArray := prog_1_method_12_code
abbrev my_X11_chip : MethodName := ⟨"WhiteElephants", "chip", "(II)I"⟩
theorem md_X11_chip : MD my_X11_chip 2 := ⟨by decide, by decide, by decide +kernel⟩
abbrev mb_X11_copy : ByteArray := prog_1_method_4_code
abbrev my_X11_copy : MethodName := ⟨"WhiteElephants", "copy", "(IIIII)I"⟩
theorem md_X11_copy : MD my_X11_copy 5 := ⟨by decide, by decide, by decide +kernel⟩
abbrev mb_X11_costs : ByteArray := prog_1_method_25_code
abbrev my_X11_costs : MethodName := ⟨"WhiteElephants", "costs", "(II)I"⟩
theorem md_X11_costs : MD my_X11_costs 2 := ⟨by decide, by decide, by decide +kernel⟩
abbrev mb_X11_day : ByteArray := prog_1_method_33_code
abbrev my_X11_day : MethodName := ⟨"WhiteElephants", "day", "(I)I"⟩
theorem md_X11_day : MD my_X11_day 1 := ⟨by decide, by decide, by decide +kernel⟩
abbrev mb_X11_element : ByteArray := prog_1_method_5_code
abbrev my_X11_element : MethodName := ⟨"WhiteElephants", "element", "(II)J"⟩
theorem md_X11_element : MD my_X11_element 2 := ⟨by decide, by decide, by decide +kernel⟩
abbrev mb_X11_feed : ByteArray := prog_1_method_15_code
abbrev my_X11_feed : MethodName := ⟨"WhiteElephants", "feed", "(II)I"⟩
theorem md_X11_feed : MD my_X11_feed 2 := ⟨by decide, by decide, by decide +kernel⟩
abbrev mb_X11_go : ByteArray := prog_1_method_32_code
abbrev my_X11_go : MethodName := ⟨"WhiteElephants", "go", "(I)I"⟩
theorem md_X11_go : MD my_X11_go 1 := ⟨by decide, by decide, by decide +kernel⟩
abbrev mb_X11_goes : ByteArray := prog_1_method_14_code
abbrev my_X11_goes : MethodName := ⟨"WhiteElephants", "goes", "(II)I"⟩
theorem md_X11_goes : MD my_X11_goes 2 := ⟨by decide, by decide, by decide +kernel⟩
abbrev mb_X11_hall : ByteArray := prog_1_method_46_code
abbrev my_X11_hall : MethodName := ⟨"WhiteElephants", "hall", "(II)I"⟩
theorem md_X11_hall : MD my_X11_hall 2 := ⟨by decide, by decide, by decide +kernel⟩
abbrev mb_X11_holds : ByteArray := prog_1_method_6_code
abbrev my_X11_holds : MethodName := ⟨"WhiteElephants", "holds", "(I)I"⟩
theorem md_X11_holds : MD my_X11_holds 1 := ⟨by decide, by decide, by decide +kernel⟩
abbrev mb_X11_image : ByteArray := prog_1_method_47_code
abbrev my_X11_image : MethodName := ⟨"WhiteElephants", "image", "()I"⟩
theorem md_X11_image : MD my_X11_image 0 := ⟨by decide, by decide, by decide +kernel⟩
abbrev mb_X11_isHour : ByteArray := prog_1_method_54_code
abbrev my_X11_isHour : MethodName := ⟨"WhiteElephants", "isHour", "(I)Z"⟩
theorem md_X11_isHour : MD my_X11_isHour 1 := ⟨by decide, by decide, by decide +kernel⟩
abbrev mb_X11_isKind : ByteArray := prog_1_method_52_code
abbrev my_X11_isKind : MethodName := ⟨"WhiteElephants", "isKind", "(I)Z"⟩
theorem md_X11_isKind : MD my_X11_isKind 1 := ⟨by decide, by decide, by decide +kernel⟩
abbrev mb_X11_isKinds : ByteArray := prog_1_method_53_code
abbrev my_X11_isKinds : MethodName := ⟨"WhiteElephants", "isKinds", "(I)Z"⟩
theorem md_X11_isKinds : MD my_X11_isKinds 1 := ⟨by decide, by decide, by decide +kernel⟩
abbrev mb_X11_isPerson : ByteArray := prog_1_method_55_code
abbrev my_X11_isPerson : MethodName := ⟨"WhiteElephants", "isPerson", "(I)Z"⟩
theorem md_X11_isPerson : MD my_X11_isPerson 1 := ⟨by decide, by decide, by decide +kernel⟩
abbrev mb_X11_isPersonOrNone : ByteArray := prog_1_method_56_code
abbrev my_X11_isPersonOrNone : MethodName := ⟨"WhiteElephants", "isPersonOrNone", "(I)Z"⟩
theorem md_X11_isPersonOrNone : MD my_X11_isPersonOrNone 1 := ⟨by decide, by decide, by decide +kernel⟩
abbrev mb_X11_isShelf : ByteArray := prog_1_method_51_code
abbrev my_X11_isShelf : MethodName := ⟨"WhiteElephants", "isShelf", "(I)Z"⟩
theorem md_X11_isShelf : MD my_X11_isShelf 1 := ⟨by decide, by decide, by decide +kernel⟩
abbrev mb_X11_judge : ByteArray := prog_1_method_29_code
abbrev my_X11_judge : MethodName := ⟨"WhiteElephants", "judge", "(I)I"⟩
theorem md_X11_judge : MD my_X11_judge 1 := ⟨by decide, by decide, by decide +kernel⟩
abbrev mb_X11_lady : ByteArray := prog_1_method_13_code
abbrev my_X11_lady : MethodName := ⟨"WhiteElephants", "lady", "(II)I"⟩
theorem md_X11_lady : MD my_X11_lady 2 := ⟨by decide, by decide, by decide +kernel⟩
abbrev mb_X11_laid : ByteArray := prog_1_method_44_code
abbrev my_X11_laid : MethodName := ⟨"WhiteElephants", "laid", "(II)I"⟩
theorem md_X11_laid : MD my_X11_laid 2 := ⟨by decide, by decide, by decide +kernel⟩
abbrev mb_X11_lawOf : ByteArray := prog_1_method_18_code
abbrev my_X11_lawOf : MethodName := ⟨"WhiteElephants", "lawOf", "(II)I"⟩
theorem md_X11_lawOf : MD my_X11_lawOf 2 := ⟨by decide, by decide, by decide +kernel⟩
abbrev mb_X11_longest : ByteArray := prog_1_method_41_code
abbrev my_X11_longest : MethodName := ⟨"WhiteElephants", "longest", "()I"⟩
theorem md_X11_longest : MD my_X11_longest 0 := ⟨by decide, by decide, by decide +kernel⟩
abbrev mb_X11_looks : ByteArray := prog_1_method_43_code
abbrev my_X11_looks : MethodName := ⟨"WhiteElephants", "looks", "(II)I"⟩
theorem md_X11_looks : MD my_X11_looks 2 := ⟨by decide, by decide, by decide +kernel⟩
abbrev mb_X11_loses : ByteArray := prog_1_method_31_code
abbrev my_X11_loses : MethodName := ⟨"WhiteElephants", "loses", "(II)I"⟩
theorem md_X11_loses : MD my_X11_loses 2 := ⟨by decide, by decide, by decide +kernel⟩
abbrev mb_X11_mark : ByteArray := prog_1_method_21_code
abbrev my_X11_mark : MethodName := ⟨"WhiteElephants", "mark", "(II)I"⟩
theorem md_X11_mark : MD my_X11_mark 2 := ⟨by decide, by decide, by decide +kernel⟩
abbrev mb_X11_morning : ByteArray := prog_1_method_34_code
abbrev my_X11_morning : MethodName := ⟨"WhiteElephants", "morning", "()I"⟩
theorem md_X11_morning : MD my_X11_morning 0 := ⟨by decide, by decide, by decide +kernel⟩
abbrev mb_X11_price : ByteArray := prog_1_method_20_code
abbrev my_X11_price : MethodName := ⟨"WhiteElephants", "price", "(II)I"⟩
theorem md_X11_price : MD my_X11_price 2 := ⟨by decide, by decide, by decide +kernel⟩
abbrev mb_X11_refusalOfRow : ByteArray := prog_1_method_59_code
abbrev my_X11_refusalOfRow : MethodName := ⟨"WhiteElephants", "refusalOfRow", "(I)I"⟩
theorem md_X11_refusalOfRow : MD my_X11_refusalOfRow 1 := ⟨by decide, by decide, by decide +kernel⟩
abbrev mb_X11_refuse : ByteArray := prog_1_method_58_code
abbrev my_X11_refuse : MethodName := ⟨"WhiteElephants", "refuse", "(I)I"⟩
theorem md_X11_refuse : MD my_X11_refuse 1 := ⟨by decide, by decide, by decide +kernel⟩
abbrev mb_X11_rest : ByteArray := prog_1_method_30_code
abbrev my_X11_rest : MethodName := ⟨"WhiteElephants", "rest", "(I)I"⟩
theorem md_X11_rest : MD my_X11_rest 1 := ⟨by decide, by decide, by decide +kernel⟩
abbrev mb_X11_row : ByteArray := prog_1_method_2_code
abbrev my_X11_row : MethodName := ⟨"WhiteElephants", "row", "(III)I"⟩
theorem md_X11_row : MD my_X11_row 3 := ⟨by decide, by decide, by decide +kernel⟩
abbrev mb_X11_same : ByteArray := prog_1_method_39_code
abbrev my_X11_same : MethodName := ⟨"WhiteElephants", "same", "(II)I"⟩
theorem md_X11_same : MD my_X11_same 2 := ⟨by decide, by decide, by decide +kernel⟩
abbrev mb_X11_says : ByteArray := prog_1_method_8_code
abbrev my_X11_says : MethodName := ⟨"WhiteElephants", "says", "(II)I"⟩
theorem md_X11_says : MD my_X11_says 2 := ⟨by decide, by decide, by decide +kernel⟩
abbrev mb_X11_secret : ByteArray := prog_1_method_42_code
abbrev my_X11_secret : MethodName := ⟨"WhiteElephants", "secret", "(II)I"⟩
theorem md_X11_secret : MD my_X11_secret 2 := ⟨by decide, by decide, by decide +kernel⟩
abbrev mb_X11_set : ByteArray := prog_1_method_3_code
abbrev my_X11_set : MethodName := ⟨"WhiteElephants", "set", "(IIJ)I"⟩
theorem md_X11_set : MD my_X11_set 3 := ⟨by decide, by decide, by decide +kernel⟩
abbrev mb_X11_shelvesInUse : ByteArray := prog_1_method_60_code
abbrev my_X11_shelvesInUse : MethodName := ⟨"WhiteElephants", "shelvesInUse", "()I"⟩
theorem md_X11_shelvesInUse : MD my_X11_shelvesInUse 0 := ⟨by decide, by decide, by decide +kernel⟩
abbrev mb_X11_shortBy : ByteArray := prog_1_method_45_code
abbrev my_X11_shortBy : MethodName := ⟨"WhiteElephants", "shortBy", "(I)I"⟩
theorem md_X11_shortBy : MD my_X11_shortBy 1 := ⟨by decide, by decide, by decide +kernel⟩
abbrev mb_X11_show : ByteArray := prog_1_method_7_code
abbrev my_X11_show : MethodName := ⟨"WhiteElephants", "show", "(II)I"⟩
theorem md_X11_show : MD my_X11_show 2 := ⟨by decide, by decide, by decide +kernel⟩
abbrev mb_X11_shown : ByteArray := prog_1_method_35_code
abbrev my_X11_shown : MethodName := ⟨"WhiteElephants", "shown", "(I)I"⟩
theorem md_X11_shown : MD my_X11_shown 1 := ⟨by decide, by decide, by decide +kernel⟩
abbrev mb_X11_sight : ByteArray := prog_1_method_38_code
abbrev my_X11_sight : MethodName := ⟨"WhiteElephants", "sight", "(IIII)I"⟩
theorem md_X11_sight : MD my_X11_sight 4 := ⟨by decide, by decide, by decide +kernel⟩
abbrev mb_X11_status : ByteArray := prog_1_method_49_code
abbrev my_X11_status : MethodName := ⟨"WhiteElephants", "status", "(I)I"⟩
theorem md_X11_status : MD my_X11_status 1 := ⟨by decide, by decide, by decide +kernel⟩
abbrev mb_X11_table : ByteArray := prog_1_method_36_code
abbrev my_X11_table : MethodName := ⟨"WhiteElephants", "table", "(I)I"⟩
theorem md_X11_table : MD my_X11_table 1 := ⟨by decide, by decide, by decide +kernel⟩
abbrev mb_X11_takes : ByteArray := prog_1_method_26_code
abbrev my_X11_takes : MethodName := ⟨"WhiteElephants", "takes", "(II)I"⟩
theorem md_X11_takes : MD my_X11_takes 2 := ⟨by decide, by decide, by decide +kernel⟩
abbrev mb_X11_takings : ByteArray := prog_1_method_27_code
abbrev my_X11_takings : MethodName := ⟨"WhiteElephants", "takings", "(II)I"⟩
theorem md_X11_takings : MD my_X11_takings 2 := ⟨by decide, by decide, by decide +kernel⟩
abbrev mb_X11_thing : ByteArray := prog_1_method_9_code
abbrev my_X11_thing : MethodName := ⟨"WhiteElephants", "thing", "(III)I"⟩
theorem md_X11_thing : MD my_X11_thing 3 := ⟨by decide, by decide, by decide +kernel⟩
abbrev mb_X11_thingOf : ByteArray := prog_1_method_11_code
abbrev my_X11_thingOf : MethodName := ⟨"WhiteElephants", "thingOf", "(II)I"⟩
theorem md_X11_thingOf : MD my_X11_thingOf 2 := ⟨by decide, by decide, by decide +kernel⟩
abbrev mb_X11_things : ByteArray := prog_1_method_10_code
abbrev my_X11_things : MethodName := ⟨"WhiteElephants", "things", "(III)I"⟩
theorem md_X11_things : MD my_X11_things 3 := ⟨by decide, by decide, by decide +kernel⟩
abbrev mb_X11_thinks : ByteArray := prog_1_method_19_code
abbrev my_X11_thinks : MethodName := ⟨"WhiteElephants", "thinks", "(IIZ)I"⟩
theorem md_X11_thinks : MD my_X11_thinks 3 := ⟨by decide, by decide, by decide +kernel⟩
abbrev mb_X11_turn : ByteArray := prog_1_method_24_code
abbrev my_X11_turn : MethodName := ⟨"WhiteElephants", "turn", "(II)I"⟩
theorem md_X11_turn : MD my_X11_turn 2 := ⟨by decide, by decide, by decide +kernel⟩
abbrev mb_X11_vases : ByteArray := prog_1_method_40_code
abbrev my_X11_vases : MethodName := ⟨"WhiteElephants", "vases", "()I"⟩
theorem md_X11_vases : MD my_X11_vases 0 := ⟨by decide, by decide, by decide +kernel⟩
abbrev mb_X11_who : ByteArray := prog_1_method_37_code
abbrev my_X11_who : MethodName := ⟨"WhiteElephants", "who", "(I)I"⟩
theorem md_X11_who : MD my_X11_who 1 := ⟨by decide, by decide, by decide +kernel⟩
abbrev mb_X11_wipe : ByteArray := prog_1_method_16_code
abbrev my_X11_wipe : MethodName := ⟨"WhiteElephants", "wipe", "()I"⟩
theorem md_X11_wipe : MD my_X11_wipe 0 := ⟨by decide, by decide, by decide +kernel⟩
abbrev mb_X11_within : ByteArray := prog_1_method_50_code
abbrev my_X11_within : MethodName := ⟨"WhiteElephants", "within", "(III)Z"⟩
theorem md_X11_within : MD my_X11_within 3 := ⟨by decide, by decide, by decide +kernel⟩
abbrev mb_X12_areKinds : ByteArray := prog_14_method_12_code
abbrev my_X12_areKinds : MethodName := ⟨"WhiteElephantsModel", "areKinds", "(I)Z"⟩
theorem md_X12_areKinds : MD my_X12_areKinds 1 := ⟨by decide, by decide, by decide +kernel⟩
abbrev mb_X12_asNow : ByteArray := prog_14_method_53_code
abbrev my_X12_asNow : MethodName := ⟨"WhiteElephantsModel", "asNow", "()V"⟩
theorem md_X12_asNow : MD my_X12_asNow 0 := ⟨by decide, by decide, by decide +kernel⟩
abbrev mb_X12_back : ByteArray := prog_14_method_85_code
abbrev my_X12_back : MethodName := ⟨"WhiteElephantsModel", "back", "()I"⟩
theorem md_X12_back : MD my_X12_back 0 := ⟨by decide, by decide, by decide +kernel⟩
abbrev mb_X12_best : ByteArray := prog_14_method_57_code
abbrev my_X12_best : MethodName := ⟨"WhiteElephantsModel", "best", "()I"⟩
theorem md_X12_best : MD my_X12_best 0 := ⟨by decide, by decide, by decide +kernel⟩
abbrev mb_X12_buyer : ByteArray := prog_14_method_47_code
abbrev my_X12_buyer : MethodName := ⟨"WhiteElephantsModel", "buyer", "(IIII)I"⟩
theorem md_X12_buyer : MD my_X12_buyer 4 := ⟨by decide, by decide, by decide +kernel⟩
abbrev mb_X12_buyerOf : ByteArray := prog_14_method_48_code
abbrev my_X12_buyerOf : MethodName := ⟨"WhiteElephantsModel", "buyerOf", "(II)I"⟩
theorem md_X12_buyerOf : MD my_X12_buyerOf 2 := ⟨by decide, by decide, by decide +kernel⟩
abbrev mb_X12_chip : ByteArray := prog_14_method_29_code
abbrev my_X12_chip : MethodName := ⟨"WhiteElephantsModel", "chip", "(II)I"⟩
theorem md_X12_chip : MD my_X12_chip 2 := ⟨by decide, by decide, by decide +kernel⟩
abbrev mb_X12_copy : ByteArray := prog_14_method_18_code
abbrev my_X12_copy : MethodName := ⟨"WhiteElephantsModel", "copy", "(IIIII)I"⟩
theorem md_X12_copy : MD my_X12_copy 5 := ⟨by decide, by decide, by decide +kernel⟩
abbrev mb_X12_costs : ByteArray := prog_14_method_51_code
abbrev my_X12_costs : MethodName := ⟨"WhiteElephantsModel", "costs", "(II)I"⟩
theorem md_X12_costs : MD my_X12_costs 2 := ⟨by decide, by decide, by decide +kernel⟩
abbrev mb_X12_day : ByteArray := prog_14_method_63_code
abbrev my_X12_day : MethodName := ⟨"WhiteElephantsModel", "day", "(I)I"⟩
theorem md_X12_day : MD my_X12_day 1 := ⟨by decide, by decide, by decide +kernel⟩
abbrev mb_X12_element : ByteArray := prog_14_method_19_code
abbrev my_X12_element : MethodName := ⟨"WhiteElephantsModel", "element", "(II)J"⟩
theorem md_X12_element : MD my_X12_element 2 := ⟨by decide, by decide, by decide +kernel⟩
abbrev mb_X12_feed : ByteArray := prog_14_method_32_code
abbrev my_X12_feed : MethodName := ⟨"WhiteElephantsModel", "feed", "(II)I"⟩
theorem md_X12_feed : MD my_X12_feed 2 := ⟨by decide, by decide, by decide +kernel⟩
abbrev mb_X12_go : ByteArray := prog_14_method_61_code
abbrev my_X12_go : MethodName := ⟨"WhiteElephantsModel", "go", "(I)I"⟩
theorem md_X12_go : MD my_X12_go 1 := ⟨by decide, by decide, by decide +kernel⟩
abbrev mb_X12_goes : ByteArray := prog_14_method_31_code
abbrev my_X12_goes : MethodName := ⟨"WhiteElephantsModel", "goes", "(II)I"⟩
theorem md_X12_goes : MD my_X12_goes 2 := ⟨by decide, by decide, by decide +kernel⟩
abbrev mb_X12_hall : ByteArray := prog_14_method_81_code
abbrev my_X12_hall : MethodName := ⟨"WhiteElephantsModel", "hall", "(II)I"⟩
theorem md_X12_hall : MD my_X12_hall 2 := ⟨by decide, by decide, by decide +kernel⟩
abbrev mb_X12_holds : ByteArray := prog_14_method_20_code
abbrev my_X12_holds : MethodName := ⟨"WhiteElephantsModel", "holds", "(I)I"⟩
theorem md_X12_holds : MD my_X12_holds 1 := ⟨by decide, by decide, by decide +kernel⟩
abbrev mb_X12_holdsThing : ByteArray := prog_14_method_5_code
abbrev my_X12_holdsThing : MethodName := ⟨"WhiteElephantsModel", "holdsThing", "(I)Z"⟩
theorem md_X12_holdsThing : MD my_X12_holdsThing 1 := ⟨by decide, by decide, by decide +kernel⟩
abbrev mb_X12_image : ByteArray := prog_14_method_84_code
abbrev my_X12_image : MethodName := ⟨"WhiteElephantsModel", "image", "()I"⟩
theorem md_X12_image : MD my_X12_image 0 := ⟨by decide, by decide, by decide +kernel⟩
abbrev mb_X12_isBuyer : ByteArray := prog_14_method_9_code
abbrev my_X12_isBuyer : MethodName := ⟨"WhiteElephantsModel", "isBuyer", "(I)Z"⟩
theorem md_X12_isBuyer : MD my_X12_isBuyer 1 := ⟨by decide, by decide, by decide +kernel⟩
abbrev mb_X12_isHour : ByteArray := prog_14_method_10_code
abbrev my_X12_isHour : MethodName := ⟨"WhiteElephantsModel", "isHour", "(I)Z"⟩
theorem md_X12_isHour : MD my_X12_isHour 1 := ⟨by decide, by decide, by decide +kernel⟩
abbrev mb_X12_isKind : ByteArray := prog_14_method_11_code
abbrev my_X12_isKind : MethodName := ⟨"WhiteElephantsModel", "isKind", "(I)Z"⟩
theorem md_X12_isKind : MD my_X12_isKind 1 := ⟨by decide, by decide, by decide +kernel⟩
abbrev mb_X12_isLady : ByteArray := prog_14_method_7_code
abbrev my_X12_isLady : MethodName := ⟨"WhiteElephantsModel", "isLady", "(I)Z"⟩
theorem md_X12_isLady : MD my_X12_isLady 1 := ⟨by decide, by decide, by decide +kernel⟩
abbrev mb_X12_isLaw : ByteArray := prog_14_method_8_code
abbrev my_X12_isLaw : MethodName := ⟨"WhiteElephantsModel", "isLaw", "(I)Z"⟩
theorem md_X12_isLaw : MD my_X12_isLaw 1 := ⟨by decide, by decide, by decide +kernel⟩
abbrev mb_X12_isPerson : ByteArray := prog_14_method_13_code
abbrev my_X12_isPerson : MethodName := ⟨"WhiteElephantsModel", "isPerson", "(I)Z"⟩
theorem md_X12_isPerson : MD my_X12_isPerson 1 := ⟨by decide, by decide, by decide +kernel⟩
abbrev mb_X12_isRow : ByteArray := prog_14_method_4_code
abbrev my_X12_isRow : MethodName := ⟨"WhiteElephantsModel", "isRow", "(I)Z"⟩
theorem md_X12_isRow : MD my_X12_isRow 1 := ⟨by decide, by decide, by decide +kernel⟩
abbrev mb_X12_isShelf : ByteArray := prog_14_method_3_code
abbrev my_X12_isShelf : MethodName := ⟨"WhiteElephantsModel", "isShelf", "(I)Z"⟩
theorem md_X12_isShelf : MD my_X12_isShelf 1 := ⟨by decide, by decide, by decide +kernel⟩
abbrev mb_X12_isThing : ByteArray := prog_14_method_6_code
abbrev my_X12_isThing : MethodName := ⟨"WhiteElephantsModel", "isThing", "(I)Z"⟩
theorem md_X12_isThing : MD my_X12_isThing 1 := ⟨by decide, by decide, by decide +kernel⟩
abbrev mb_X12_judge : ByteArray := prog_14_method_58_code
abbrev my_X12_judge : MethodName := ⟨"WhiteElephantsModel", "judge", "(I)I"⟩
theorem md_X12_judge : MD my_X12_judge 1 := ⟨by decide, by decide, by decide +kernel⟩
abbrev mb_X12_lady : ByteArray := prog_14_method_30_code
abbrev my_X12_lady : MethodName := ⟨"WhiteElephantsModel", "lady", "(II)I"⟩
theorem md_X12_lady : MD my_X12_lady 2 := ⟨by decide, by decide, by decide +kernel⟩
abbrev mb_X12_laid : ByteArray := prog_14_method_78_code
abbrev my_X12_laid : MethodName := ⟨"WhiteElephantsModel", "laid", "(II)I"⟩
theorem md_X12_laid : MD my_X12_laid 2 := ⟨by decide, by decide, by decide +kernel⟩
abbrev mb_X12_lawOf : ByteArray := prog_14_method_41_code
abbrev my_X12_lawOf : MethodName := ⟨"WhiteElephantsModel", "lawOf", "(II)I"⟩
theorem md_X12_lawOf : MD my_X12_lawOf 2 := ⟨by decide, by decide, by decide +kernel⟩
abbrev mb_X12_longest : ByteArray := prog_14_method_74_code
abbrev my_X12_longest : MethodName := ⟨"WhiteElephantsModel", "longest", "()I"⟩
theorem md_X12_longest : MD my_X12_longest 0 := ⟨by decide, by decide, by decide +kernel⟩
abbrev mb_X12_looks : ByteArray := prog_14_method_76_code
abbrev my_X12_looks : MethodName := ⟨"WhiteElephantsModel", "looks", "(II)I"⟩
theorem md_X12_looks : MD my_X12_looks 2 := ⟨by decide, by decide, by decide +kernel⟩
abbrev mb_X12_loses : ByteArray := prog_14_method_60_code
abbrev my_X12_loses : MethodName := ⟨"WhiteElephantsModel", "loses", "(II)I"⟩
theorem md_X12_loses : MD my_X12_loses 2 := ⟨by decide, by decide, by decide +kernel⟩
abbrev mb_X12_mark : ByteArray := prog_14_method_46_code
abbrev my_X12_mark : MethodName := ⟨"WhiteElephantsModel", "mark", "(II)I"⟩
theorem md_X12_mark : MD my_X12_mark 2 := ⟨by decide, by decide, by decide +kernel⟩
abbrev mb_X12_morning : ByteArray := prog_14_method_64_code
abbrev my_X12_morning : MethodName := ⟨"WhiteElephantsModel", "morning", "()I"⟩
theorem md_X12_morning : MD my_X12_morning 0 := ⟨by decide, by decide, by decide +kernel⟩
abbrev mb_X12_move : ByteArray := prog_14_method_82_code
abbrev my_X12_move : MethodName := ⟨"WhiteElephantsModel", "move", "([IIZ)I"⟩
theorem md_X12_move : MD my_X12_move 3 := ⟨by decide, by decide, by decide +kernel⟩
abbrev mb_X12_moveAll : ByteArray := prog_14_method_83_code
abbrev my_X12_moveAll : MethodName := ⟨"WhiteElephantsModel", "moveAll", "(Z)V"⟩
theorem md_X12_moveAll : MD my_X12_moveAll 1 := ⟨by decide, by decide, by decide +kernel⟩
abbrev mb_X12_no : ByteArray := prog_14_method_2_code
abbrev my_X12_no : MethodName := ⟨"WhiteElephantsModel", "no", "(I)I"⟩
theorem md_X12_no : MD my_X12_no 1 := ⟨by decide, by decide, by decide +kernel⟩
abbrev mb_X12_noRow : ByteArray := prog_14_method_16_code
abbrev my_X12_noRow : MethodName := ⟨"WhiteElephantsModel", "noRow", "(I)I"⟩
theorem md_X12_noRow : MD my_X12_noRow 1 := ⟨by decide, by decide, by decide +kernel⟩
abbrev mb_X12_price : ByteArray := prog_14_method_45_code
abbrev my_X12_price : MethodName := ⟨"WhiteElephantsModel", "price", "(II)I"⟩
theorem md_X12_price : MD my_X12_price 2 := ⟨by decide, by decide, by decide +kernel⟩
abbrev mb_X12_rest : ByteArray := prog_14_method_59_code
abbrev my_X12_rest : MethodName := ⟨"WhiteElephantsModel", "rest", "(I)I"⟩
theorem md_X12_rest : MD my_X12_rest 1 := ⟨by decide, by decide, by decide +kernel⟩
abbrev mb_X12_row : ByteArray := prog_14_method_15_code
abbrev my_X12_row : MethodName := ⟨"WhiteElephantsModel", "row", "(III)I"⟩
theorem md_X12_row : MD my_X12_row 3 := ⟨by decide, by decide, by decide +kernel⟩
abbrev mb_X12_same : ByteArray := prog_14_method_71_code
abbrev my_X12_same : MethodName := ⟨"WhiteElephantsModel", "same", "(II)I"⟩
theorem md_X12_same : MD my_X12_same 2 := ⟨by decide, by decide, by decide +kernel⟩
abbrev mb_X12_says : ByteArray := prog_14_method_23_code
abbrev my_X12_says : MethodName := ⟨"WhiteElephantsModel", "says", "(II)I"⟩
theorem md_X12_says : MD my_X12_says 2 := ⟨by decide, by decide, by decide +kernel⟩
abbrev mb_X12_secret : ByteArray := prog_14_method_75_code
abbrev my_X12_secret : MethodName := ⟨"WhiteElephantsModel", "secret", "(II)I"⟩
theorem md_X12_secret : MD my_X12_secret 2 := ⟨by decide, by decide, by decide +kernel⟩
abbrev mb_X12_set : ByteArray := prog_14_method_17_code
abbrev my_X12_set : MethodName := ⟨"WhiteElephantsModel", "set", "(IIJ)I"⟩
theorem md_X12_set : MD my_X12_set 3 := ⟨by decide, by decide, by decide +kernel⟩
abbrev mb_X12_shortBy : ByteArray := prog_14_method_79_code
abbrev my_X12_shortBy : MethodName := ⟨"WhiteElephantsModel", "shortBy", "(I)I"⟩
theorem md_X12_shortBy : MD my_X12_shortBy 1 := ⟨by decide, by decide, by decide +kernel⟩
abbrev mb_X12_show : ByteArray := prog_14_method_21_code
abbrev my_X12_show : MethodName := ⟨"WhiteElephantsModel", "show", "(II)I"⟩
theorem md_X12_show : MD my_X12_show 2 := ⟨by decide, by decide, by decide +kernel⟩
abbrev mb_X12_shown : ByteArray := prog_14_method_65_code
abbrev my_X12_shown : MethodName := ⟨"WhiteElephantsModel", "shown", "(I)I"⟩
theorem md_X12_shown : MD my_X12_shown 1 := ⟨by decide, by decide, by decide +kernel⟩
abbrev mb_X12_sight : ByteArray := prog_14_method_69_code
abbrev my_X12_sight : MethodName := ⟨"WhiteElephantsModel", "sight", "(IIII)I"⟩
theorem md_X12_sight : MD my_X12_sight 4 := ⟨by decide, by decide, by decide +kernel⟩
abbrev mb_X12_sold : ByteArray := prog_14_method_62_code
abbrev my_X12_sold : MethodName := ⟨"WhiteElephantsModel", "sold", "()I"⟩
theorem md_X12_sold : MD my_X12_sold 0 := ⟨by decide, by decide, by decide +kernel⟩
abbrev mb_X12_status : ByteArray := prog_14_method_86_code
abbrev my_X12_status : MethodName := ⟨"WhiteElephantsModel", "status", "(I)I"⟩
theorem md_X12_status : MD my_X12_status 1 := ⟨by decide, by decide, by decide +kernel⟩
abbrev mb_X12_table : ByteArray := prog_14_method_66_code
abbrev my_X12_table : MethodName := ⟨"WhiteElephantsModel", "table", "(I)I"⟩
theorem md_X12_table : MD my_X12_table 1 := ⟨by decide, by decide, by decide +kernel⟩
abbrev mb_X12_takes : ByteArray := prog_14_method_54_code
abbrev my_X12_takes : MethodName := ⟨"WhiteElephantsModel", "takes", "(II)I"⟩
theorem md_X12_takes : MD my_X12_takes 2 := ⟨by decide, by decide, by decide +kernel⟩
abbrev mb_X12_takings : ByteArray := prog_14_method_56_code
abbrev my_X12_takings : MethodName := ⟨"WhiteElephantsModel", "takings", "(II)I"⟩
theorem md_X12_takings : MD my_X12_takings 2 := ⟨by decide, by decide, by decide +kernel⟩
abbrev mb_X12_thing : ByteArray := prog_14_method_26_code
abbrev my_X12_thing : MethodName := ⟨"WhiteElephantsModel", "thing", "(III)I"⟩
theorem md_X12_thing : MD my_X12_thing 3 := ⟨by decide, by decide, by decide +kernel⟩
abbrev mb_X12_thingOf : ByteArray := prog_14_method_28_code
abbrev my_X12_thingOf : MethodName := ⟨"WhiteElephantsModel", "thingOf", "(II)I"⟩
theorem md_X12_thingOf : MD my_X12_thingOf 2 := ⟨by decide, by decide, by decide +kernel⟩
abbrev mb_X12_things : ByteArray := prog_14_method_27_code
abbrev my_X12_things : MethodName := ⟨"WhiteElephantsModel", "things", "(III)I"⟩
theorem md_X12_things : MD my_X12_things 3 := ⟨by decide, by decide, by decide +kernel⟩
abbrev mb_X12_thinks : ByteArray := prog_14_method_44_code
abbrev my_X12_thinks : MethodName := ⟨"WhiteElephantsModel", "thinks", "(IIZ)I"⟩
theorem md_X12_thinks : MD my_X12_thinks 3 := ⟨by decide, by decide, by decide +kernel⟩
abbrev mb_X12_turn : ByteArray := prog_14_method_49_code
abbrev my_X12_turn : MethodName := ⟨"WhiteElephantsModel", "turn", "(II)I"⟩
theorem md_X12_turn : MD my_X12_turn 2 := ⟨by decide, by decide, by decide +kernel⟩
abbrev mb_X12_vases : ByteArray := prog_14_method_73_code
abbrev my_X12_vases : MethodName := ⟨"WhiteElephantsModel", "vases", "()I"⟩
theorem md_X12_vases : MD my_X12_vases 0 := ⟨by decide, by decide, by decide +kernel⟩
abbrev mb_X12_who : ByteArray := prog_14_method_68_code
abbrev my_X12_who : MethodName := ⟨"WhiteElephantsModel", "who", "(I)I"⟩
theorem md_X12_who : MD my_X12_who 1 := ⟨by decide, by decide, by decide +kernel⟩
abbrev mb_X12_wholeDay : ByteArray := prog_14_method_55_code
abbrev my_X12_wholeDay : MethodName := ⟨"WhiteElephantsModel", "wholeDay", "(II)I"⟩
theorem md_X12_wholeDay : MD my_X12_wholeDay 2 := ⟨by decide, by decide, by decide +kernel⟩
abbrev mb_X12_wipe : ByteArray := prog_14_method_33_code
abbrev my_X12_wipe : MethodName := ⟨"WhiteElephantsModel", "wipe", "()I"⟩
theorem md_X12_wipe : MD my_X12_wipe 0 := ⟨by decide, by decide, by decide +kernel⟩
abbrev mb_X1_become : ByteArray := prog_3_method_11_code
abbrev my_X1_become : MethodName := ⟨"WhiteElephants$Hall", "become", "(LWhiteElephants$Hall;)V"⟩
theorem md_X1_become : MD my_X1_become 1 := ⟨by decide, by decide, by decide +kernel⟩
abbrev mb_X1_bestLady : ByteArray := prog_3_method_8_code
abbrev my_X1_bestLady : MethodName := ⟨"WhiteElephants$Hall", "bestLady", "(II)I"⟩
theorem md_X1_bestLady : MD my_X1_bestLady 2 := ⟨by decide, by decide, by decide +kernel⟩
abbrev mb_X1_planTables : ByteArray := prog_3_method_7_code
abbrev my_X1_planTables : MethodName := ⟨"WhiteElephants$Hall", "planTables", "()V"⟩
theorem md_X1_planTables : MD my_X1_planTables 0 := ⟨by decide, by decide, by decide +kernel⟩
abbrev mb_X2_add : ByteArray := prog_4_method_3_code
abbrev my_X2_add : MethodName := ⟨"WhiteElephants$Ladies", "add", "(II)I"⟩
theorem md_X2_add : MD my_X2_add 2 := ⟨by decide, by decide, by decide +kernel⟩
abbrev mb_X2_become : ByteArray := prog_4_method_4_code
abbrev my_X2_become : MethodName := ⟨"WhiteElephants$Ladies", "become", "(LWhiteElephants$Ladies;)V"⟩
theorem md_X2_become : MD my_X2_become 1 := ⟨by decide, by decide, by decide +kernel⟩
abbrev mb_X2_has : ByteArray := prog_4_method_2_code
abbrev my_X2_has : MethodName := ⟨"WhiteElephants$Ladies", "has", "(I)Z"⟩
theorem md_X2_has : MD my_X2_has 1 := ⟨by decide, by decide, by decide +kernel⟩
abbrev mb_X3_become : ByteArray := prog_5_method_7_code
abbrev my_X3_become : MethodName := ⟨"WhiteElephants$Laws", "become", "(LWhiteElephants$Laws;)V"⟩
theorem md_X3_become : MD my_X3_become 1 := ⟨by decide, by decide, by decide +kernel⟩
abbrev mb_X3_has : ByteArray := prog_5_method_3_code
abbrev my_X3_has : MethodName := ⟨"WhiteElephants$Laws", "has", "(I)Z"⟩
theorem md_X3_has : MD my_X3_has 1 := ⟨by decide, by decide, by decide +kernel⟩
abbrev mb_X4_bargains : ByteArray := prog_6_method_2_code
abbrev my_X4_bargains : MethodName := ⟨"WhiteElephants$Picks", "bargains", "(LWhiteElephants$Things;I)I"⟩
theorem md_X4_bargains : MD my_X4_bargains 2 := ⟨by decide, by decide, by decide +kernel⟩
abbrev mb_X4_fewestPaid : ByteArray := prog_6_method_4_code
abbrev my_X4_fewestPaid : MethodName := ⟨"WhiteElephants$Picks", "fewestPaid", "(LWhiteElephants$Things;I)I"⟩
theorem md_X4_fewestPaid : MD my_X4_fewestPaid 2 := ⟨by decide, by decide, by decide +kernel⟩
abbrev mb_X5_bestTurns : ByteArray := prog_7_method_10_code
abbrev my_X5_bestTurns : MethodName := ⟨"WhiteElephants$Sale", "bestTurns", "(LWhiteElephants$Hall;)I"⟩
theorem md_X5_bestTurns : MD my_X5_bestTurns 1 := ⟨by decide, by decide, by decide +kernel⟩
abbrev mb_X5_open : ByteArray := prog_7_method_4_code
abbrev my_X5_open : MethodName := ⟨"WhiteElephants$Sale", "open", "(LWhiteElephants$Hall;II)V"⟩
theorem md_X5_open : MD my_X5_open 3 := ⟨by decide, by decide, by decide +kernel⟩
abbrev mb_X5_playHour : ByteArray := prog_7_method_6_code
abbrev my_X5_playHour : MethodName := ⟨"WhiteElephants$Sale", "playHour", "(LWhiteElephants$Hall;I)I"⟩
theorem md_X5_playHour : MD my_X5_playHour 2 := ⟨by decide, by decide, by decide +kernel⟩
abbrev mb_X5_settle : ByteArray := prog_7_method_11_code
abbrev my_X5_settle : MethodName := ⟨"WhiteElephants$Sale", "settle", "(LWhiteElephants$Hall;)V"⟩
theorem md_X5_settle : MD my_X5_settle 1 := ⟨by decide, by decide, by decide +kernel⟩
abbrev mb_X5_stage : ByteArray := prog_7_method_2_code
abbrev my_X5_stage : MethodName := ⟨"WhiteElephants$Sale", "stage", "(III)I"⟩
theorem md_X5_stage : MD my_X5_stage 3 := ⟨by decide, by decide, by decide +kernel⟩
abbrev mb_X5_wholeDay : ByteArray := prog_7_method_9_code
abbrev my_X5_wholeDay : MethodName := ⟨"WhiteElephants$Sale", "wholeDay", "(LWhiteElephants$Hall;II)I"⟩
theorem md_X5_wholeDay : MD my_X5_wholeDay 3 := ⟨by decide, by decide, by decide +kernel⟩
abbrev mb_X6_become : ByteArray := prog_8_method_8_code
abbrev my_X6_become : MethodName := ⟨"WhiteElephants$Secrets", "become", "(LWhiteElephants$Secrets;)V"⟩
theorem md_X6_become : MD my_X6_become 1 := ⟨by decide, by decide, by decide +kernel⟩
abbrev mb_X7_at : ByteArray := prog_9_method_7_code
abbrev my_X7_at : MethodName := ⟨"WhiteElephants$Shelf", "at", "(I)J"⟩
theorem md_X7_at : MD my_X7_at 1 := ⟨by decide, by decide, by decide +kernel⟩
abbrev mb_X7_hasRow : ByteArray := prog_9_method_3_code
abbrev my_X7_hasRow : MethodName := ⟨"WhiteElephants$Shelf", "hasRow", "()Z"⟩
theorem md_X7_hasRow : MD my_X7_hasRow 0 := ⟨by decide, by decide, by decide +kernel⟩
abbrev mb_X7_hasThing : ByteArray := prog_9_method_4_code
abbrev my_X7_hasThing : MethodName := ⟨"WhiteElephants$Shelf", "hasThing", "()Z"⟩
theorem md_X7_hasThing : MD my_X7_hasThing 0 := ⟨by decide, by decide, by decide +kernel⟩
abbrev mb_X7_isEmpty : ByteArray := prog_9_method_2_code
abbrev my_X7_isEmpty : MethodName := ⟨"WhiteElephants$Shelf", "isEmpty", "()Z"⟩
theorem md_X7_isEmpty : MD my_X7_isEmpty 0 := ⟨by decide, by decide, by decide +kernel⟩
abbrev mb_X7_takeRow : ByteArray := prog_9_method_6_code
abbrev my_X7_takeRow : MethodName := ⟨"WhiteElephants$Shelf", "takeRow", "(II)V"⟩
theorem md_X7_takeRow : MD my_X7_takeRow 2 := ⟨by decide, by decide, by decide +kernel⟩
abbrev mb_X8_add : ByteArray := prog_10_method_3_code
abbrev my_X8_add : MethodName := ⟨"WhiteElephants$Sightings", "add", "(IIII)I"⟩
theorem md_X8_add : MD my_X8_add 4 := ⟨by decide, by decide, by decide +kernel⟩
abbrev mb_X8_become : ByteArray := prog_10_method_9_code
abbrev my_X8_become : MethodName := ⟨"WhiteElephants$Sightings", "become", "(LWhiteElephants$Sightings;)V"⟩
theorem md_X8_become : MD my_X8_become 1 := ⟨by decide, by decide, by decide +kernel⟩
abbrev mb_X8_fewestVases : ByteArray := prog_10_method_5_code
abbrev my_X8_fewestVases : MethodName := ⟨"WhiteElephants$Sightings", "fewestVases", "()I"⟩
theorem md_X8_fewestVases : MD my_X8_fewestVases 0 := ⟨by decide, by decide, by decide +kernel⟩
abbrev mb_X8_has : ByteArray := prog_10_method_2_code
abbrev my_X8_has : MethodName := ⟨"WhiteElephants$Sightings", "has", "(I)Z"⟩
theorem md_X8_has : MD my_X8_has 1 := ⟨by decide, by decide, by decide +kernel⟩
abbrev mb_X8_longestRow : ByteArray := prog_10_method_7_code
abbrev my_X8_longestRow : MethodName := ⟨"WhiteElephants$Sightings", "longestRow", "()I"⟩
theorem md_X8_longestRow : MD my_X8_longestRow 0 := ⟨by decide, by decide, by decide +kernel⟩
abbrev mb_X9_append : ByteArray := prog_11_method_2_code
abbrev my_X9_append : MethodName := ⟨"WhiteElephants$Tape", "append", "(II)V"⟩
theorem md_X9_append : MD my_X9_append 2 := ⟨by decide, by decide, by decide +kernel⟩
theorem kk_1 : Cond.initialized "WhiteElephants" ∈ BW := bw_at 61 (by decide +kernel) rfl
theorem kk_2 : Cond.initialized "WhiteElephants$Tape" ∈ BW := bw_at 62 (by decide +kernel) rfl
theorem kk_3 : Cond.initialized "WhiteElephants$Hall" ∈ BW := bw_at 63 (by decide +kernel) rfl
theorem kk_4 : Cond.initialized "WhiteElephants$Things" ∈ BW := bw_at 64 (by decide +kernel) rfl
theorem kk_5 : Cond.initialized "WhiteElephants$Ladies" ∈ BW := bw_at 65 (by decide +kernel) rfl
theorem kk_6 : Cond.initialized "WhiteElephants$Laws" ∈ BW := bw_at 66 (by decide +kernel) rfl
theorem kk_7 : Cond.initialized "WhiteElephants$Buyers" ∈ BW := bw_at 67 (by decide +kernel) rfl
theorem kk_8 : Cond.initialized "WhiteElephants$Sightings" ∈ BW := bw_at 68 (by decide +kernel) rfl
theorem kk_9 : Cond.initialized "WhiteElephants$Secrets" ∈ BW := bw_at 69 (by decide +kernel) rfl
theorem kk_10 : Cond.initialized "WhiteElephants$Sale" ∈ BW := bw_at 70 (by decide +kernel) rfl
theorem kk_11 : Cond.initialized "WhiteElephants$Picks" ∈ BW := bw_at 71 (by decide +kernel) rfl
theorem kk_12 : Cond.initialized "WhiteElephants$Shelf" ∈ BW := bw_at 72 (by decide +kernel) rfl
theorem kk_13 : Cond.initialized "WhiteElephantsModel" ∈ BW := bw_at 73 (by decide +kernel) rfl
theorem kk_14 : Cond.initialized "java/util/Arrays" ∈ BW := bw_at 74 (by decide +kernel) rfl
theorem kk_15 : Cond.initialized "java/lang/System" ∈ BW := bw_at 75 (by decide +kernel) rfl
theorem kk_16 : Cond.initialized "java/lang/Integer" ∈ BW := bw_at 76 (by decide +kernel) rfl
theorem kk_17 : Cond.initialized "java/lang/Math" ∈ BW := bw_at 77 (by decide +kernel) rfl
theorem kk_38 : Cond.fieldLink "WhiteElephants$Tape" 9 "WhiteElephants$Tape" "bytes" "[B" ∈ BW := bw_at 98 (by decide +kernel) rfl
theorem kk_39 : Cond.fieldLink "WhiteElephants$Tape" 15 "WhiteElephants$Tape" "size" "I" ∈ BW := bw_at 99 (by decide +kernel) rfl
theorem kk_40 : Cond.fieldLink "WhiteElephants" 188 "WhiteElephants$Tape" "size" "I" ∈ BW := bw_at 100 (by decide +kernel) rfl
theorem kk_53 : Cond.arrayClass .byte ∈ BW := bw_at 113 (by decide +kernel) rfl
theorem kk_66 : Cond.fieldLink "WhiteElephants$Things" 9 "WhiteElephants$Things" "kind" "[I" ∈ BW := bw_at 126 (by decide +kernel) rfl
theorem kk_70 : Cond.fieldLink "WhiteElephants$Things" 15 "WhiteElephants$Things" "worth" "[I" ∈ BW := bw_at 130 (by decide +kernel) rfl
theorem kk_72 : Cond.fieldLink "WhiteElephants$Things" 18 "WhiteElephants$Things" "chips" "[I" ∈ BW := bw_at 132 (by decide +kernel) rfl
theorem kk_74 : Cond.fieldLink "WhiteElephants$Things" 21 "WhiteElephants$Things" "price" "[I" ∈ BW := bw_at 134 (by decide +kernel) rfl
theorem kk_79 : Cond.fieldLink "WhiteElephants$Things" 24 "WhiteElephants$Things" "buyer" "[I" ∈ BW := bw_at 139 (by decide +kernel) rfl
theorem kk_82 : Cond.fieldLink "WhiteElephants$Things" 27 "WhiteElephants$Things" "paid" "[I" ∈ BW := bw_at 142 (by decide +kernel) rfl
theorem kk_86 : Cond.fieldLink "WhiteElephants$Things" 30 "WhiteElephants$Things" "count" "I" ∈ BW := bw_at 146 (by decide +kernel) rfl
theorem kk_87 : Cond.fieldLink "WhiteElephants$Picks" 18 "WhiteElephants$Things" "count" "I" ∈ BW := bw_at 147 (by decide +kernel) rfl
theorem kk_88 : Cond.fieldLink "WhiteElephants$Sale" 46 "WhiteElephants$Things" "count" "I" ∈ BW := bw_at 148 (by decide +kernel) rfl
theorem kk_90 : Cond.fieldLink "WhiteElephants" 132 "WhiteElephants$Things" "count" "I" ∈ BW := bw_at 150 (by decide +kernel) rfl
theorem kk_116 : Cond.fieldLink "WhiteElephants$Ladies" 9 "WhiteElephants$Ladies" "knows" "[I" ∈ BW := bw_at 176 (by decide +kernel) rfl
theorem kk_118 : Cond.fieldLink "WhiteElephants$Ladies" 15 "WhiteElephants$Ladies" "guess" "[I" ∈ BW := bw_at 178 (by decide +kernel) rfl
theorem kk_120 : Cond.fieldLink "WhiteElephants$Ladies" 18 "WhiteElephants$Ladies" "law" "[I" ∈ BW := bw_at 180 (by decide +kernel) rfl
theorem kk_123 : Cond.fieldLink "WhiteElephants$Ladies" 21 "WhiteElephants$Ladies" "count" "I" ∈ BW := bw_at 183 (by decide +kernel) rfl
theorem kk_124 : Cond.fieldLink "WhiteElephants$Hall" 130 "WhiteElephants$Ladies" "count" "I" ∈ BW := bw_at 184 (by decide +kernel) rfl
theorem kk_125 : Cond.fieldLink "WhiteElephants" 172 "WhiteElephants$Ladies" "count" "I" ∈ BW := bw_at 185 (by decide +kernel) rfl
theorem kk_141 : Cond.fieldLink "WhiteElephants$Laws" 11 "WhiteElephants$Laws" "parts" "[I" ∈ BW := bw_at 201 (by decide +kernel) rfl
theorem kk_144 : Cond.fieldLink "WhiteElephants$Laws" 18 "WhiteElephants$Laws" "count" "I" ∈ BW := bw_at 204 (by decide +kernel) rfl
theorem kk_145 : Cond.fieldLink "WhiteElephants" 192 "WhiteElephants$Laws" "count" "I" ∈ BW := bw_at 205 (by decide +kernel) rfl
theorem kk_159 : Cond.fieldLink "WhiteElephants$Buyers" 9 "WhiteElephants$Buyers" "hour" "[I" ∈ BW := bw_at 219 (by decide +kernel) rfl
theorem kk_162 : Cond.fieldLink "WhiteElephants$Buyers" 15 "WhiteElephants$Buyers" "purse" "[I" ∈ BW := bw_at 222 (by decide +kernel) rfl
theorem kk_165 : Cond.fieldLink "WhiteElephants$Buyers" 18 "WhiteElephants$Buyers" "wishes" "[I" ∈ BW := bw_at 225 (by decide +kernel) rfl
theorem kk_168 : Cond.fieldLink "WhiteElephants$Buyers" 21 "WhiteElephants$Buyers" "eye" "[I" ∈ BW := bw_at 228 (by decide +kernel) rfl
theorem kk_171 : Cond.fieldLink "WhiteElephants$Buyers" 24 "WhiteElephants$Buyers" "bought" "[I" ∈ BW := bw_at 231 (by decide +kernel) rfl
theorem kk_174 : Cond.fieldLink "WhiteElephants$Buyers" 27 "WhiteElephants$Buyers" "count" "I" ∈ BW := bw_at 234 (by decide +kernel) rfl
theorem kk_175 : Cond.fieldLink "WhiteElephants$Sale" 63 "WhiteElephants$Buyers" "count" "I" ∈ BW := bw_at 235 (by decide +kernel) rfl
theorem kk_176 : Cond.fieldLink "WhiteElephants" 223 "WhiteElephants$Buyers" "count" "I" ∈ BW := bw_at 236 (by decide +kernel) rfl
theorem kk_196 : Cond.fieldLink "WhiteElephants$Sightings" 9 "WhiteElephants$Sightings" "year" "[I" ∈ BW := bw_at 256 (by decide +kernel) rfl
theorem kk_197 : Cond.fieldLink "WhiteElephants$Sightings" 15 "WhiteElephants$Sightings" "chips" "[I" ∈ BW := bw_at 257 (by decide +kernel) rfl
theorem kk_198 : Cond.fieldLink "WhiteElephants$Sightings" 18 "WhiteElephants$Sightings" "gave" "[I" ∈ BW := bw_at 258 (by decide +kernel) rfl
theorem kk_199 : Cond.fieldLink "WhiteElephants$Sightings" 21 "WhiteElephants$Sightings" "bought" "[I" ∈ BW := bw_at 259 (by decide +kernel) rfl
theorem kk_200 : Cond.fieldLink "WhiteElephants$Sightings" 24 "WhiteElephants$Sightings" "count" "I" ∈ BW := bw_at 260 (by decide +kernel) rfl
theorem kk_201 : Cond.fieldLink "WhiteElephants" 325 "WhiteElephants$Sightings" "count" "I" ∈ BW := bw_at 261 (by decide +kernel) rfl
theorem kk_202 : Cond.fieldLink "WhiteElephants$Sightings" 28 "WhiteElephants$Sightings" "before" "[I" ∈ BW := bw_at 262 (by decide +kernel) rfl
theorem kk_228 : Cond.fieldLink "WhiteElephants$Secrets" 9 "WhiteElephants$Secrets" "thing" "[I" ∈ BW := bw_at 288 (by decide +kernel) rfl
theorem kk_229 : Cond.fieldLink "WhiteElephants$Secrets" 15 "WhiteElephants$Secrets" "person" "[I" ∈ BW := bw_at 289 (by decide +kernel) rfl
theorem kk_230 : Cond.fieldLink "WhiteElephants$Secrets" 18 "WhiteElephants$Secrets" "count" "I" ∈ BW := bw_at 290 (by decide +kernel) rfl
theorem kk_231 : Cond.fieldLink "WhiteElephants" 346 "WhiteElephants$Secrets" "count" "I" ∈ BW := bw_at 291 (by decide +kernel) rfl
theorem kk_232 : Cond.fieldLink "WhiteElephants$Secrets" 22 "WhiteElephants$Secrets" "sees" "[I" ∈ BW := bw_at 292 (by decide +kernel) rfl
theorem kk_233 : Cond.fieldLink "WhiteElephants" 350 "WhiteElephants$Secrets" "sees" "[I" ∈ BW := bw_at 293 (by decide +kernel) rfl
theorem kk_258 : Cond.fieldLink "WhiteElephants$Hall" 12 "WhiteElephants$Hall" "things" "LWhiteElephants$Things;" ∈ BW := bw_at 318 (by decide +kernel) rfl
theorem kk_259 : Cond.fieldLink "WhiteElephants$Sale" 40 "WhiteElephants$Hall" "things" "LWhiteElephants$Things;" ∈ BW := bw_at 319 (by decide +kernel) rfl
theorem kk_260 : Cond.fieldLink "WhiteElephants" 113 "WhiteElephants$Hall" "things" "LWhiteElephants$Things;" ∈ BW := bw_at 320 (by decide +kernel) rfl
theorem kk_261 : Cond.fieldLink "WhiteElephants$Hall" 21 "WhiteElephants$Hall" "ladies" "LWhiteElephants$Ladies;" ∈ BW := bw_at 321 (by decide +kernel) rfl
theorem kk_262 : Cond.fieldLink "WhiteElephants" 168 "WhiteElephants$Hall" "ladies" "LWhiteElephants$Ladies;" ∈ BW := bw_at 322 (by decide +kernel) rfl
theorem kk_263 : Cond.fieldLink "WhiteElephants$Hall" 28 "WhiteElephants$Hall" "laws" "LWhiteElephants$Laws;" ∈ BW := bw_at 323 (by decide +kernel) rfl
theorem kk_264 : Cond.fieldLink "WhiteElephants" 178 "WhiteElephants$Hall" "laws" "LWhiteElephants$Laws;" ∈ BW := bw_at 324 (by decide +kernel) rfl
theorem kk_265 : Cond.fieldLink "WhiteElephants$Hall" 35 "WhiteElephants$Hall" "buyers" "LWhiteElephants$Buyers;" ∈ BW := bw_at 325 (by decide +kernel) rfl
theorem kk_266 : Cond.fieldLink "WhiteElephants$Sale" 59 "WhiteElephants$Hall" "buyers" "LWhiteElephants$Buyers;" ∈ BW := bw_at 326 (by decide +kernel) rfl
theorem kk_267 : Cond.fieldLink "WhiteElephants" 219 "WhiteElephants$Hall" "buyers" "LWhiteElephants$Buyers;" ∈ BW := bw_at 327 (by decide +kernel) rfl
theorem kk_268 : Cond.fieldLink "WhiteElephants$Hall" 42 "WhiteElephants$Hall" "sightings" "LWhiteElephants$Sightings;" ∈ BW := bw_at 328 (by decide +kernel) rfl
theorem kk_269 : Cond.fieldLink "WhiteElephants" 321 "WhiteElephants$Hall" "sightings" "LWhiteElephants$Sightings;" ∈ BW := bw_at 329 (by decide +kernel) rfl
theorem kk_270 : Cond.fieldLink "WhiteElephants$Hall" 49 "WhiteElephants$Hall" "secrets" "LWhiteElephants$Secrets;" ∈ BW := bw_at 330 (by decide +kernel) rfl
theorem kk_271 : Cond.fieldLink "WhiteElephants" 342 "WhiteElephants$Hall" "secrets" "LWhiteElephants$Secrets;" ∈ BW := bw_at 331 (by decide +kernel) rfl
theorem kk_272 : Cond.fieldLink "WhiteElephants$Hall" 53 "WhiteElephants$Hall" "tables" "[I" ∈ BW := bw_at 332 (by decide +kernel) rfl
theorem kk_273 : Cond.fieldLink "WhiteElephants" 306 "WhiteElephants$Hall" "tables" "[I" ∈ BW := bw_at 333 (by decide +kernel) rfl
theorem kk_274 : Cond.fieldLink "WhiteElephants$Hall" 57 "WhiteElephants$Hall" "tableCount" "I" ∈ BW := bw_at 334 (by decide +kernel) rfl
theorem kk_275 : Cond.fieldLink "WhiteElephants" 303 "WhiteElephants$Hall" "tableCount" "I" ∈ BW := bw_at 335 (by decide +kernel) rfl
theorem kk_276 : Cond.fieldLink "WhiteElephants$Hall" 61 "WhiteElephants$Hall" "half" "I" ∈ BW := bw_at 336 (by decide +kernel) rfl
theorem kk_277 : Cond.fieldLink "WhiteElephants" 245 "WhiteElephants$Hall" "half" "I" ∈ BW := bw_at 337 (by decide +kernel) rfl
theorem kk_278 : Cond.fieldLink "WhiteElephants$Hall" 64 "WhiteElephants$Hall" "bag" "I" ∈ BW := bw_at 338 (by decide +kernel) rfl
theorem kk_279 : Cond.fieldLink "WhiteElephants" 248 "WhiteElephants$Hall" "bag" "I" ∈ BW := bw_at 339 (by decide +kernel) rfl
theorem kk_280 : Cond.fieldLink "WhiteElephants$Hall" 67 "WhiteElephants$Hall" "hour" "I" ∈ BW := bw_at 340 (by decide +kernel) rfl
theorem kk_281 : Cond.fieldLink "WhiteElephants" 282 "WhiteElephants$Hall" "hour" "I" ∈ BW := bw_at 341 (by decide +kernel) rfl
theorem kk_282 : Cond.fieldLink "WhiteElephants$Hall" 70 "WhiteElephants$Hall" "taken" "I" ∈ BW := bw_at 342 (by decide +kernel) rfl
theorem kk_283 : Cond.fieldLink "WhiteElephants" 293 "WhiteElephants$Hall" "taken" "I" ∈ BW := bw_at 343 (by decide +kernel) rfl
theorem kk_285 : Cond.fieldLink "WhiteElephants$Hall" 76 "WhiteElephants$Hall" "leastLost" "[I" ∈ BW := bw_at 345 (by decide +kernel) rfl
theorem kk_286 : Cond.fieldLink "WhiteElephants" 312 "WhiteElephants$Hall" "leastLost" "[I" ∈ BW := bw_at 346 (by decide +kernel) rfl
theorem kk_322 : Cond.fieldLink "WhiteElephants$Sale" 9 "WhiteElephants$Sale" "half" "I" ∈ BW := bw_at 382 (by decide +kernel) rfl
theorem kk_323 : Cond.fieldLink "WhiteElephants$Sale" 15 "WhiteElephants$Sale" "bag" "I" ∈ BW := bw_at 383 (by decide +kernel) rfl
theorem kk_325 : Cond.fieldLink "WhiteElephants$Sale" 22 "WhiteElephants$Sale" "leftCount" "I" ∈ BW := bw_at 385 (by decide +kernel) rfl
theorem kk_356 : Cond.fieldLink "WhiteElephants$Picks" 9 "WhiteElephants$Picks" "sets" "[I" ∈ BW := bw_at 416 (by decide +kernel) rfl
theorem kk_357 : Cond.fieldLink "WhiteElephants$Picks" 15 "WhiteElephants$Picks" "gains" "[I" ∈ BW := bw_at 417 (by decide +kernel) rfl
theorem kk_368 : Cond.fieldLink "WhiteElephants$Shelf" 9 "WhiteElephants$Shelf" "elements" "[J" ∈ BW := bw_at 428 (by decide +kernel) rfl
theorem kk_370 : Cond.fieldLink "WhiteElephants$Shelf" 15 "WhiteElephants$Shelf" "held" "I" ∈ BW := bw_at 430 (by decide +kernel) rfl
theorem kk_371 : Cond.fieldLink "WhiteElephants" 89 "WhiteElephants$Shelf" "held" "I" ∈ BW := bw_at 431 (by decide +kernel) rfl
theorem kk_372 : Cond.fieldLink "WhiteElephants$Shelf" 19 "WhiteElephants$Shelf" "size" "I" ∈ BW := bw_at 432 (by decide +kernel) rfl
theorem kk_382 : Cond.fieldLink "WhiteElephants" 11 "WhiteElephants" "shelves" "[LWhiteElephants$Shelf;" ∈ BW := bw_at 442 (by decide +kernel) rfl
theorem kk_383 : Cond.fieldLink "WhiteElephants" 15 "WhiteElephants" "refusals" "[I" ∈ BW := bw_at 443 (by decide +kernel) rfl
theorem kk_384 : Cond.fieldLink "WhiteElephants" 22 "WhiteElephants" "tape" "LWhiteElephants$Tape;" ∈ BW := bw_at 444 (by decide +kernel) rfl
theorem kk_385 : Cond.fieldLink "WhiteElephants" 29 "WhiteElephants" "now" "LWhiteElephants$Hall;" ∈ BW := bw_at 445 (by decide +kernel) rfl
theorem kk_386 : Cond.fieldLink "WhiteElephants" 33 "WhiteElephants" "kept" "LWhiteElephants$Hall;" ∈ BW := bw_at 446 (by decide +kernel) rfl
theorem kk_387 : Cond.fieldLink "WhiteElephants" 39 "WhiteElephants" "sale" "LWhiteElephants$Sale;" ∈ BW := bw_at 447 (by decide +kernel) rfl
theorem kk_388 : Cond.fieldLink "WhiteElephants" 46 "WhiteElephants" "picks" "LWhiteElephants$Picks;" ∈ BW := bw_at 448 (by decide +kernel) rfl
theorem kk_389 : Cond.fieldLink "WhiteElephants" 50 "WhiteElephants" "imaged" "Z" ∈ BW := bw_at 449 (by decide +kernel) rfl
theorem kk_410 : Cond.code ⟨"WhiteElephants", "row", "(III)I"⟩ prog_1_method_2_code 4 (some .int) ∈ BW := bw_at 470 (by decide +kernel) rfl
theorem kk_411 : Cond.methodLink "WhiteElephants" 55 ⟨"WhiteElephants", "isShelf", "(I)Z"⟩ ∈ BW := bw_at 471 (by decide +kernel) rfl
theorem kk_412 : Cond.static ⟨"WhiteElephants", "isShelf", "(I)Z"⟩ ∈ BW := bw_at 472 (by decide +kernel) rfl
theorem kk_413 : Cond.code ⟨"WhiteElephants", "isShelf", "(I)Z"⟩ prog_1_method_51_code 1 (some .boolean) ∈ BW := bw_at 473 (by decide +kernel) rfl
theorem kk_414 : Cond.methodLink "WhiteElephants" 59 ⟨"WhiteElephants", "within", "(III)Z"⟩ ∈ BW := bw_at 474 (by decide +kernel) rfl
theorem kk_415 : Cond.static ⟨"WhiteElephants", "within", "(III)Z"⟩ ∈ BW := bw_at 475 (by decide +kernel) rfl
theorem kk_416 : Cond.code ⟨"WhiteElephants", "within", "(III)Z"⟩ prog_1_method_50_code 3 (some .boolean) ∈ BW := bw_at 476 (by decide +kernel) rfl
theorem kk_417 : Cond.methodLink "WhiteElephants" 63 ⟨"WhiteElephants", "refuse", "(I)I"⟩ ∈ BW := bw_at 477 (by decide +kernel) rfl
theorem kk_419 : Cond.instanceMethod ⟨"WhiteElephants", "refuse", "(I)I"⟩ ∈ BW := bw_at 479 (by decide +kernel) rfl
theorem kk_420 : Cond.code ⟨"WhiteElephants", "refuse", "(I)I"⟩ prog_1_method_58_code 3 (some .int) ∈ BW := bw_at 480 (by decide +kernel) rfl
theorem kk_421 : Cond.methodLink "WhiteElephants" 67 ⟨"WhiteElephants$Shelf", "takeRow", "(II)V"⟩ ∈ BW := bw_at 481 (by decide +kernel) rfl
theorem kk_422 : Cond.instanceMethod ⟨"WhiteElephants$Shelf", "takeRow", "(II)V"⟩ ∈ BW := bw_at 482 (by decide +kernel) rfl
theorem kk_423 : Cond.selects "WhiteElephants$Shelf" ⟨"WhiteElephants$Shelf", "takeRow", "(II)V"⟩ ⟨"WhiteElephants$Shelf", "takeRow", "(II)V"⟩ ∈ BW := bw_at 483 (by decide +kernel) rfl
theorem kk_424 : Cond.code ⟨"WhiteElephants$Shelf", "takeRow", "(II)V"⟩ prog_9_method_6_code 3 (none : Option Jvm.ClassFile.FieldType) ∈ BW := bw_at 484 (by decide +kernel) rfl
theorem kk_425 : Cond.methodLink "WhiteElephants$Shelf" 26 ⟨"java/util/Arrays", "fill", "([JJ)V"⟩ ∈ BW := bw_at 485 (by decide +kernel) rfl
theorem kk_426 : Cond.static ⟨"java/util/Arrays", "fill", "([JJ)V"⟩ ∈ BW := bw_at 486 (by decide +kernel) rfl
theorem kk_427 : Cond.code ⟨"java/util/Arrays", "fill", "([JJ)V"⟩ prog_21_method_101_code 5 (none : Option Jvm.ClassFile.FieldType) ∈ BW := bw_at 487 (by decide +kernel) rfl
theorem kk_431 : Cond.code ⟨"WhiteElephants", "set", "(IIJ)I"⟩ prog_1_method_3_code 6 (some .int) ∈ BW := bw_at 491 (by decide +kernel) rfl
theorem kk_432 : Cond.methodLink "WhiteElephants" 71 ⟨"WhiteElephants", "refusalOfRow", "(I)I"⟩ ∈ BW := bw_at 492 (by decide +kernel) rfl
theorem kk_434 : Cond.instanceMethod ⟨"WhiteElephants", "refusalOfRow", "(I)I"⟩ ∈ BW := bw_at 494 (by decide +kernel) rfl
theorem kk_435 : Cond.code ⟨"WhiteElephants", "refusalOfRow", "(I)I"⟩ prog_1_method_59_code 2 (some .int) ∈ BW := bw_at 495 (by decide +kernel) rfl
theorem kk_436 : Cond.methodLink "WhiteElephants" 82 ⟨"WhiteElephants$Shelf", "hasThing", "()Z"⟩ ∈ BW := bw_at 496 (by decide +kernel) rfl
theorem kk_437 : Cond.instanceMethod ⟨"WhiteElephants$Shelf", "hasThing", "()Z"⟩ ∈ BW := bw_at 497 (by decide +kernel) rfl
theorem kk_438 : Cond.selects "WhiteElephants$Shelf" ⟨"WhiteElephants$Shelf", "hasThing", "()Z"⟩ ⟨"WhiteElephants$Shelf", "hasThing", "()Z"⟩ ∈ BW := bw_at 498 (by decide +kernel) rfl
theorem kk_439 : Cond.code ⟨"WhiteElephants$Shelf", "hasThing", "()Z"⟩ prog_9_method_4_code 1 (some .boolean) ∈ BW := bw_at 499 (by decide +kernel) rfl
theorem kk_440 : Cond.methodLink "WhiteElephants" 92 ⟨"WhiteElephants$Shelf", "isEmpty", "()Z"⟩ ∈ BW := bw_at 500 (by decide +kernel) rfl
theorem kk_441 : Cond.instanceMethod ⟨"WhiteElephants$Shelf", "isEmpty", "()Z"⟩ ∈ BW := bw_at 501 (by decide +kernel) rfl
theorem kk_442 : Cond.selects "WhiteElephants$Shelf" ⟨"WhiteElephants$Shelf", "isEmpty", "()Z"⟩ ⟨"WhiteElephants$Shelf", "isEmpty", "()Z"⟩ ∈ BW := bw_at 502 (by decide +kernel) rfl
theorem kk_443 : Cond.code ⟨"WhiteElephants$Shelf", "isEmpty", "()Z"⟩ prog_9_method_2_code 1 (some .boolean) ∈ BW := bw_at 503 (by decide +kernel) rfl
theorem kk_448 : Cond.methodLink "WhiteElephants$Shelf" 32 ⟨"WhiteElephants$Shelf", "hasRow", "()Z"⟩ ∈ BW := bw_at 508 (by decide +kernel) rfl
theorem kk_449 : Cond.instanceMethod ⟨"WhiteElephants$Shelf", "hasRow", "()Z"⟩ ∈ BW := bw_at 509 (by decide +kernel) rfl
theorem kk_450 : Cond.selects "WhiteElephants$Shelf" ⟨"WhiteElephants$Shelf", "hasRow", "()Z"⟩ ⟨"WhiteElephants$Shelf", "hasRow", "()Z"⟩ ∈ BW := bw_at 510 (by decide +kernel) rfl
theorem kk_451 : Cond.code ⟨"WhiteElephants$Shelf", "hasRow", "()Z"⟩ prog_9_method_3_code 1 (some .boolean) ∈ BW := bw_at 511 (by decide +kernel) rfl
theorem kk_460 : Cond.code ⟨"WhiteElephants", "copy", "(IIIII)I"⟩ prog_1_method_4_code 8 (some .int) ∈ BW := bw_at 520 (by decide +kernel) rfl
theorem kk_461 : Cond.methodLink "WhiteElephants" 86 ⟨"WhiteElephants$Shelf", "hasRow", "()Z"⟩ ∈ BW := bw_at 521 (by decide +kernel) rfl
theorem kk_467 : Cond.static ⟨"java/lang/System", "arraycopy", "(Ljava/lang/Object;ILjava/lang/Object;II)V"⟩ ∈ BW := bw_at 527 (by decide +kernel) rfl
theorem kk_468 : Cond.native ⟨"java/lang/System", "arraycopy", "(Ljava/lang/Object;ILjava/lang/Object;II)V"⟩ ∈ BW := bw_at 528 (by decide +kernel) rfl
theorem kk_472 : Cond.code ⟨"WhiteElephants", "element", "(II)J"⟩ prog_1_method_5_code 3 (some .long) ∈ BW := bw_at 532 (by decide +kernel) rfl
theorem kk_473 : Cond.methodLink "WhiteElephants" 109 ⟨"WhiteElephants$Shelf", "at", "(I)J"⟩ ∈ BW := bw_at 533 (by decide +kernel) rfl
theorem kk_474 : Cond.instanceMethod ⟨"WhiteElephants$Shelf", "at", "(I)J"⟩ ∈ BW := bw_at 534 (by decide +kernel) rfl
theorem kk_475 : Cond.selects "WhiteElephants$Shelf" ⟨"WhiteElephants$Shelf", "at", "(I)J"⟩ ⟨"WhiteElephants$Shelf", "at", "(I)J"⟩ ∈ BW := bw_at 535 (by decide +kernel) rfl
theorem kk_476 : Cond.code ⟨"WhiteElephants$Shelf", "at", "(I)J"⟩ prog_9_method_7_code 2 (some .long) ∈ BW := bw_at 536 (by decide +kernel) rfl
theorem kk_480 : Cond.code ⟨"WhiteElephants", "holds", "(I)I"⟩ prog_1_method_6_code 2 (some .int) ∈ BW := bw_at 540 (by decide +kernel) rfl
theorem kk_484 : Cond.code ⟨"WhiteElephants", "show", "(II)I"⟩ prog_1_method_7_code 3 (some .int) ∈ BW := bw_at 544 (by decide +kernel) rfl
theorem kk_485 : Cond.methodLink "WhiteElephants" 117 ⟨"WhiteElephants$Things", "has", "(I)Z"⟩ ∈ BW := bw_at 545 (by decide +kernel) rfl
theorem kk_486 : Cond.instanceMethod ⟨"WhiteElephants$Things", "has", "(I)Z"⟩ ∈ BW := bw_at 546 (by decide +kernel) rfl
theorem kk_487 : Cond.selects "WhiteElephants$Things" ⟨"WhiteElephants$Things", "has", "(I)Z"⟩ ⟨"WhiteElephants$Things", "has", "(I)Z"⟩ ∈ BW := bw_at 547 (by decide +kernel) rfl
theorem kk_488 : Cond.code ⟨"WhiteElephants$Things", "has", "(I)Z"⟩ prog_12_method_2_code 2 (some .boolean) ∈ BW := bw_at 548 (by decide +kernel) rfl
theorem kk_493 : Cond.code ⟨"WhiteElephants", "says", "(II)I"⟩ prog_1_method_8_code 5 (some .int) ∈ BW := bw_at 553 (by decide +kernel) rfl
theorem kk_494 : Cond.methodLink "WhiteElephants" 122 ⟨"WhiteElephants", "isKind", "(I)Z"⟩ ∈ BW := bw_at 554 (by decide +kernel) rfl
theorem kk_495 : Cond.static ⟨"WhiteElephants", "isKind", "(I)Z"⟩ ∈ BW := bw_at 555 (by decide +kernel) rfl
theorem kk_496 : Cond.code ⟨"WhiteElephants", "isKind", "(I)Z"⟩ prog_1_method_52_code 1 (some .boolean) ∈ BW := bw_at 556 (by decide +kernel) rfl
theorem kk_508 : Cond.static ⟨"java/lang/Integer", "bitCount", "(I)I"⟩ ∈ BW := bw_at 568 (by decide +kernel) rfl
theorem kk_509 : Cond.code ⟨"java/lang/Integer", "bitCount", "(I)I"⟩ prog_15_method_49_code 1 (some .int) ∈ BW := bw_at 569 (by decide +kernel) rfl
theorem kk_510 : Cond.constant "java/lang/Integer" 265 (1431655765 : Int32) ∈ BW := bw_at 570 (by decide +kernel) rfl
theorem kk_511 : Cond.constant "java/lang/Integer" 266 (858993459 : Int32) ∈ BW := bw_at 571 (by decide +kernel) rfl
theorem kk_512 : Cond.constant "java/lang/Integer" 267 (252645135 : Int32) ∈ BW := bw_at 572 (by decide +kernel) rfl
theorem kk_536 : Cond.static ⟨"java/lang/Math", "min", "(II)I"⟩ ∈ BW := bw_at 596 (by decide +kernel) rfl
theorem kk_537 : Cond.code ⟨"java/lang/Math", "min", "(II)I"⟩ prog_16_method_69_code 2 (some .int) ∈ BW := bw_at 597 (by decide +kernel) rfl
theorem kk_541 : Cond.code ⟨"WhiteElephants", "thing", "(III)I"⟩ prog_1_method_9_code 4 (some .int) ∈ BW := bw_at 601 (by decide +kernel) rfl
theorem kk_542 : Cond.methodLink "WhiteElephants" 135 ⟨"WhiteElephants$Things", "add", "(III)I"⟩ ∈ BW := bw_at 602 (by decide +kernel) rfl
theorem kk_543 : Cond.instanceMethod ⟨"WhiteElephants$Things", "add", "(III)I"⟩ ∈ BW := bw_at 603 (by decide +kernel) rfl
theorem kk_544 : Cond.selects "WhiteElephants$Things" ⟨"WhiteElephants$Things", "add", "(III)I"⟩ ⟨"WhiteElephants$Things", "add", "(III)I"⟩ ∈ BW := bw_at 604 (by decide +kernel) rfl
theorem kk_545 : Cond.code ⟨"WhiteElephants$Things", "add", "(III)I"⟩ prog_12_method_3_code 4 (some .int) ∈ BW := bw_at 605 (by decide +kernel) rfl
theorem kk_549 : Cond.code ⟨"WhiteElephants", "things", "(III)I"⟩ prog_1_method_10_code 9 (some .int) ∈ BW := bw_at 609 (by decide +kernel) rfl
theorem kk_554 : Cond.code ⟨"WhiteElephants", "thingOf", "(II)I"⟩ prog_1_method_11_code 3 (some .int) ∈ BW := bw_at 614 (by decide +kernel) rfl
theorem kk_559 : Cond.code ⟨"WhiteElephants", "chip", "(II)I"⟩ prog_1_method_12_code 3 (some .int) ∈ BW := bw_at 619 (by decide +kernel) rfl
theorem kk_564 : Cond.code ⟨"WhiteElephants", "lady", "(II)I"⟩ prog_1_method_13_code 3 (some .int) ∈ BW := bw_at 624 (by decide +kernel) rfl
theorem kk_565 : Cond.methodLink "WhiteElephants" 165 ⟨"WhiteElephants", "isKinds", "(I)Z"⟩ ∈ BW := bw_at 625 (by decide +kernel) rfl
theorem kk_566 : Cond.static ⟨"WhiteElephants", "isKinds", "(I)Z"⟩ ∈ BW := bw_at 626 (by decide +kernel) rfl
theorem kk_567 : Cond.code ⟨"WhiteElephants", "isKinds", "(I)Z"⟩ prog_1_method_53_code 1 (some .boolean) ∈ BW := bw_at 627 (by decide +kernel) rfl
theorem kk_568 : Cond.methodLink "WhiteElephants" 175 ⟨"WhiteElephants$Ladies", "add", "(II)I"⟩ ∈ BW := bw_at 628 (by decide +kernel) rfl
theorem kk_569 : Cond.instanceMethod ⟨"WhiteElephants$Ladies", "add", "(II)I"⟩ ∈ BW := bw_at 629 (by decide +kernel) rfl
theorem kk_570 : Cond.selects "WhiteElephants$Ladies" ⟨"WhiteElephants$Ladies", "add", "(II)I"⟩ ⟨"WhiteElephants$Ladies", "add", "(II)I"⟩ ∈ BW := bw_at 630 (by decide +kernel) rfl
theorem kk_571 : Cond.code ⟨"WhiteElephants$Ladies", "add", "(II)I"⟩ prog_4_method_3_code 3 (some .int) ∈ BW := bw_at 631 (by decide +kernel) rfl
theorem kk_575 : Cond.code ⟨"WhiteElephants", "goes", "(II)I"⟩ prog_1_method_14_code 4 (some .int) ∈ BW := bw_at 635 (by decide +kernel) rfl
theorem kk_576 : Cond.methodLink "WhiteElephants" 177 ⟨"WhiteElephants$Ladies", "has", "(I)Z"⟩ ∈ BW := bw_at 636 (by decide +kernel) rfl
theorem kk_577 : Cond.instanceMethod ⟨"WhiteElephants$Ladies", "has", "(I)Z"⟩ ∈ BW := bw_at 637 (by decide +kernel) rfl
theorem kk_578 : Cond.selects "WhiteElephants$Ladies" ⟨"WhiteElephants$Ladies", "has", "(I)Z"⟩ ⟨"WhiteElephants$Ladies", "has", "(I)Z"⟩ ∈ BW := bw_at 638 (by decide +kernel) rfl
theorem kk_579 : Cond.code ⟨"WhiteElephants$Ladies", "has", "(I)Z"⟩ prog_4_method_2_code 2 (some .boolean) ∈ BW := bw_at 639 (by decide +kernel) rfl
theorem kk_581 : Cond.methodLink "WhiteElephants" 182 ⟨"WhiteElephants$Laws", "has", "(I)Z"⟩ ∈ BW := bw_at 641 (by decide +kernel) rfl
theorem kk_582 : Cond.instanceMethod ⟨"WhiteElephants$Laws", "has", "(I)Z"⟩ ∈ BW := bw_at 642 (by decide +kernel) rfl
theorem kk_583 : Cond.selects "WhiteElephants$Laws" ⟨"WhiteElephants$Laws", "has", "(I)Z"⟩ ⟨"WhiteElephants$Laws", "has", "(I)Z"⟩ ∈ BW := bw_at 643 (by decide +kernel) rfl
theorem kk_584 : Cond.code ⟨"WhiteElephants$Laws", "has", "(I)Z"⟩ prog_5_method_3_code 2 (some .boolean) ∈ BW := bw_at 644 (by decide +kernel) rfl
theorem kk_589 : Cond.code ⟨"WhiteElephants", "feed", "(II)I"⟩ prog_1_method_15_code 3 (some .int) ∈ BW := bw_at 649 (by decide +kernel) rfl
theorem kk_590 : Cond.methodLink "WhiteElephants" 189 ⟨"WhiteElephants$Tape", "append", "(II)V"⟩ ∈ BW := bw_at 650 (by decide +kernel) rfl
theorem kk_591 : Cond.instanceMethod ⟨"WhiteElephants$Tape", "append", "(II)V"⟩ ∈ BW := bw_at 651 (by decide +kernel) rfl
theorem kk_592 : Cond.selects "WhiteElephants$Tape" ⟨"WhiteElephants$Tape", "append", "(II)V"⟩ ⟨"WhiteElephants$Tape", "append", "(II)V"⟩ ∈ BW := bw_at 652 (by decide +kernel) rfl
theorem kk_593 : Cond.code ⟨"WhiteElephants$Tape", "append", "(II)V"⟩ prog_11_method_2_code 4 (none : Option Jvm.ClassFile.FieldType) ∈ BW := bw_at 653 (by decide +kernel) rfl
theorem kk_597 : Cond.code ⟨"WhiteElephants", "wipe", "()I"⟩ prog_1_method_16_code 2 (some .int) ∈ BW := bw_at 657 (by decide +kernel) rfl
theorem kk_612 : Cond.methodLink "WhiteElephants$Laws" 39 ⟨"java/lang/System", "arraycopy", "(Ljava/lang/Object;ILjava/lang/Object;II)V"⟩ ∈ BW := bw_at 672 (by decide +kernel) rfl
theorem kk_702 : Cond.code ⟨"WhiteElephants", "lawOf", "(II)I"⟩ prog_1_method_18_code 3 (some .int) ∈ BW := bw_at 762 (by decide +kernel) rfl
theorem kk_711 : Cond.code ⟨"WhiteElephants", "thinks", "(IIZ)I"⟩ prog_1_method_19_code 4 (some .int) ∈ BW := bw_at 771 (by decide +kernel) rfl
theorem kk_732 : Cond.code ⟨"WhiteElephants", "price", "(II)I"⟩ prog_1_method_20_code 3 (some .int) ∈ BW := bw_at 792 (by decide +kernel) rfl
theorem kk_745 : Cond.code ⟨"WhiteElephants", "mark", "(II)I"⟩ prog_1_method_21_code 4 (some .int) ∈ BW := bw_at 805 (by decide +kernel) rfl
theorem kk_753 : Cond.code ⟨"WhiteElephants", "buyer", "(IIII)I"⟩ prog_1_method_22_code 5 (some .int) ∈ BW := bw_at 813 (by decide +kernel) rfl
theorem kk_754 : Cond.methodLink "WhiteElephants" 216 ⟨"WhiteElephants", "isHour", "(I)Z"⟩ ∈ BW := bw_at 814 (by decide +kernel) rfl
theorem kk_755 : Cond.static ⟨"WhiteElephants", "isHour", "(I)Z"⟩ ∈ BW := bw_at 815 (by decide +kernel) rfl
theorem kk_756 : Cond.code ⟨"WhiteElephants", "isHour", "(I)Z"⟩ prog_1_method_54_code 1 (some .boolean) ∈ BW := bw_at 816 (by decide +kernel) rfl
theorem kk_757 : Cond.methodLink "WhiteElephants" 226 ⟨"WhiteElephants$Buyers", "add", "(IIII)I"⟩ ∈ BW := bw_at 817 (by decide +kernel) rfl
theorem kk_758 : Cond.instanceMethod ⟨"WhiteElephants$Buyers", "add", "(IIII)I"⟩ ∈ BW := bw_at 818 (by decide +kernel) rfl
theorem kk_759 : Cond.selects "WhiteElephants$Buyers" ⟨"WhiteElephants$Buyers", "add", "(IIII)I"⟩ ⟨"WhiteElephants$Buyers", "add", "(IIII)I"⟩ ∈ BW := bw_at 819 (by decide +kernel) rfl
theorem kk_760 : Cond.code ⟨"WhiteElephants$Buyers", "add", "(IIII)I"⟩ prog_2_method_3_code 5 (some .int) ∈ BW := bw_at 820 (by decide +kernel) rfl
theorem kk_764 : Cond.code ⟨"WhiteElephants", "buyerOf", "(II)I"⟩ prog_1_method_23_code 3 (some .int) ∈ BW := bw_at 824 (by decide +kernel) rfl
theorem kk_765 : Cond.methodLink "WhiteElephants" 229 ⟨"WhiteElephants$Buyers", "has", "(I)Z"⟩ ∈ BW := bw_at 825 (by decide +kernel) rfl
theorem kk_766 : Cond.instanceMethod ⟨"WhiteElephants$Buyers", "has", "(I)Z"⟩ ∈ BW := bw_at 826 (by decide +kernel) rfl
theorem kk_767 : Cond.selects "WhiteElephants$Buyers" ⟨"WhiteElephants$Buyers", "has", "(I)Z"⟩ ⟨"WhiteElephants$Buyers", "has", "(I)Z"⟩ ∈ BW := bw_at 827 (by decide +kernel) rfl
theorem kk_768 : Cond.code ⟨"WhiteElephants$Buyers", "has", "(I)Z"⟩ prog_2_method_2_code 2 (some .boolean) ∈ BW := bw_at 828 (by decide +kernel) rfl
theorem kk_773 : Cond.code ⟨"WhiteElephants", "turn", "(II)I"⟩ prog_1_method_24_code 4 (some .int) ∈ BW := bw_at 833 (by decide +kernel) rfl
theorem kk_777 : Cond.code ⟨"WhiteElephants", "costs", "(II)I"⟩ prog_1_method_25_code 3 (some .int) ∈ BW := bw_at 837 (by decide +kernel) rfl
theorem kk_779 : Cond.static ⟨"WhiteElephants$Sale", "stage", "(III)I"⟩ ∈ BW := bw_at 839 (by decide +kernel) rfl
theorem kk_780 : Cond.code ⟨"WhiteElephants$Sale", "stage", "(III)I"⟩ prog_7_method_2_code 3 (some .int) ∈ BW := bw_at 840 (by decide +kernel) rfl
theorem kk_787 : Cond.code ⟨"WhiteElephants", "takes", "(II)I"⟩ prog_1_method_26_code 3 (some .int) ∈ BW := bw_at 847 (by decide +kernel) rfl
theorem kk_788 : Cond.methodLink "WhiteElephants" 257 ⟨"WhiteElephants$Sale", "open", "(LWhiteElephants$Hall;II)V"⟩ ∈ BW := bw_at 848 (by decide +kernel) rfl
theorem kk_789 : Cond.instanceMethod ⟨"WhiteElephants$Sale", "open", "(LWhiteElephants$Hall;II)V"⟩ ∈ BW := bw_at 849 (by decide +kernel) rfl
theorem kk_790 : Cond.selects "WhiteElephants$Sale" ⟨"WhiteElephants$Sale", "open", "(LWhiteElephants$Hall;II)V"⟩ ⟨"WhiteElephants$Sale", "open", "(LWhiteElephants$Hall;II)V"⟩ ∈ BW := bw_at 850 (by decide +kernel) rfl
theorem kk_791 : Cond.code ⟨"WhiteElephants$Sale", "open", "(LWhiteElephants$Hall;II)V"⟩ prog_7_method_4_code 6 (none : Option Jvm.ClassFile.FieldType) ∈ BW := bw_at 851 (by decide +kernel) rfl
theorem kk_802 : Cond.methodLink "WhiteElephants$Sale" 70 ⟨"WhiteElephants$Sale", "stage", "(III)I"⟩ ∈ BW := bw_at 862 (by decide +kernel) rfl
theorem kk_812 : Cond.code ⟨"WhiteElephants", "takings", "(II)I"⟩ prog_1_method_27_code 3 (some .int) ∈ BW := bw_at 872 (by decide +kernel) rfl
theorem kk_813 : Cond.methodLink "WhiteElephants" 265 ⟨"WhiteElephants$Sale", "wholeDay", "(LWhiteElephants$Hall;II)I"⟩ ∈ BW := bw_at 873 (by decide +kernel) rfl
theorem kk_814 : Cond.instanceMethod ⟨"WhiteElephants$Sale", "wholeDay", "(LWhiteElephants$Hall;II)I"⟩ ∈ BW := bw_at 874 (by decide +kernel) rfl
theorem kk_815 : Cond.selects "WhiteElephants$Sale" ⟨"WhiteElephants$Sale", "wholeDay", "(LWhiteElephants$Hall;II)I"⟩ ⟨"WhiteElephants$Sale", "wholeDay", "(LWhiteElephants$Hall;II)I"⟩ ∈ BW := bw_at 875 (by decide +kernel) rfl
theorem kk_816 : Cond.code ⟨"WhiteElephants$Sale", "wholeDay", "(LWhiteElephants$Hall;II)I"⟩ prog_7_method_9_code 6 (some .int) ∈ BW := bw_at 876 (by decide +kernel) rfl
theorem kk_817 : Cond.methodLink "WhiteElephants$Sale" 104 ⟨"WhiteElephants$Sale", "open", "(LWhiteElephants$Hall;II)V"⟩ ∈ BW := bw_at 877 (by decide +kernel) rfl
theorem kk_818 : Cond.methodLink "WhiteElephants$Sale" 108 ⟨"WhiteElephants$Sale", "playHour", "(LWhiteElephants$Hall;I)I"⟩ ∈ BW := bw_at 878 (by decide +kernel) rfl
theorem kk_819 : Cond.instanceMethod ⟨"WhiteElephants$Sale", "playHour", "(LWhiteElephants$Hall;I)I"⟩ ∈ BW := bw_at 879 (by decide +kernel) rfl
theorem kk_820 : Cond.selects "WhiteElephants$Sale" ⟨"WhiteElephants$Sale", "playHour", "(LWhiteElephants$Hall;I)I"⟩ ⟨"WhiteElephants$Sale", "playHour", "(LWhiteElephants$Hall;I)I"⟩ ∈ BW := bw_at 880 (by decide +kernel) rfl
theorem kk_821 : Cond.code ⟨"WhiteElephants$Sale", "playHour", "(LWhiteElephants$Hall;I)I"⟩ prog_7_method_6_code 7 (some .int) ∈ BW := bw_at 881 (by decide +kernel) rfl
theorem kk_830 : Cond.code ⟨"WhiteElephants", "best", "()I"⟩ prog_1_method_28_code 1 (some .int) ∈ BW := bw_at 890 (by decide +kernel) rfl
theorem kk_831 : Cond.methodLink "WhiteElephants" 268 ⟨"WhiteElephants$Sale", "bestTurns", "(LWhiteElephants$Hall;)I"⟩ ∈ BW := bw_at 891 (by decide +kernel) rfl
theorem kk_832 : Cond.instanceMethod ⟨"WhiteElephants$Sale", "bestTurns", "(LWhiteElephants$Hall;)I"⟩ ∈ BW := bw_at 892 (by decide +kernel) rfl
theorem kk_833 : Cond.selects "WhiteElephants$Sale" ⟨"WhiteElephants$Sale", "bestTurns", "(LWhiteElephants$Hall;)I"⟩ ⟨"WhiteElephants$Sale", "bestTurns", "(LWhiteElephants$Hall;)I"⟩ ∈ BW := bw_at 893 (by decide +kernel) rfl
theorem kk_834 : Cond.code ⟨"WhiteElephants$Sale", "bestTurns", "(LWhiteElephants$Hall;)I"⟩ prog_7_method_10_code 7 (some .int) ∈ BW := bw_at 894 (by decide +kernel) rfl
theorem kk_835 : Cond.methodLink "WhiteElephants$Sale" 112 ⟨"WhiteElephants$Sale", "wholeDay", "(LWhiteElephants$Hall;II)I"⟩ ∈ BW := bw_at 895 (by decide +kernel) rfl
theorem kk_839 : Cond.code ⟨"WhiteElephants", "judge", "(I)I"⟩ prog_1_method_29_code 4 (some .int) ∈ BW := bw_at 899 (by decide +kernel) rfl
theorem kk_840 : Cond.methodLink "WhiteElephants" 272 ⟨"WhiteElephants$Sale", "playHour", "(LWhiteElephants$Hall;I)I"⟩ ∈ BW := bw_at 900 (by decide +kernel) rfl
theorem kk_844 : Cond.code ⟨"WhiteElephants", "rest", "(I)I"⟩ prog_1_method_30_code 2 (some .int) ∈ BW := bw_at 904 (by decide +kernel) rfl
theorem kk_845 : Cond.methodLink "WhiteElephants" 276 ⟨"WhiteElephants$Things", "worthLeft", "(I)I"⟩ ∈ BW := bw_at 905 (by decide +kernel) rfl
theorem kk_846 : Cond.instanceMethod ⟨"WhiteElephants$Things", "worthLeft", "(I)I"⟩ ∈ BW := bw_at 906 (by decide +kernel) rfl
theorem kk_847 : Cond.selects "WhiteElephants$Things" ⟨"WhiteElephants$Things", "worthLeft", "(I)I"⟩ ⟨"WhiteElephants$Things", "worthLeft", "(I)I"⟩ ∈ BW := bw_at 907 (by decide +kernel) rfl
theorem kk_848 : Cond.code ⟨"WhiteElephants$Things", "worthLeft", "(I)I"⟩ prog_12_method_14_code 4 (some .int) ∈ BW := bw_at 908 (by decide +kernel) rfl
theorem kk_853 : Cond.code ⟨"WhiteElephants", "loses", "(II)I"⟩ prog_1_method_31_code 3 (some .int) ∈ BW := bw_at 913 (by decide +kernel) rfl
theorem kk_862 : Cond.code ⟨"WhiteElephants", "go", "(I)I"⟩ prog_1_method_32_code 5 (some .int) ∈ BW := bw_at 922 (by decide +kernel) rfl
theorem kk_863 : Cond.methodLink "WhiteElephants" 284 ⟨"java/lang/Math", "min", "(II)I"⟩ ∈ BW := bw_at 923 (by decide +kernel) rfl
theorem kk_864 : Cond.methodLink "WhiteElephants" 289 ⟨"WhiteElephants$Sale", "settle", "(LWhiteElephants$Hall;)V"⟩ ∈ BW := bw_at 924 (by decide +kernel) rfl
theorem kk_865 : Cond.instanceMethod ⟨"WhiteElephants$Sale", "settle", "(LWhiteElephants$Hall;)V"⟩ ∈ BW := bw_at 925 (by decide +kernel) rfl
theorem kk_866 : Cond.selects "WhiteElephants$Sale" ⟨"WhiteElephants$Sale", "settle", "(LWhiteElephants$Hall;)V"⟩ ⟨"WhiteElephants$Sale", "settle", "(LWhiteElephants$Hall;)V"⟩ ∈ BW := bw_at 926 (by decide +kernel) rfl
theorem kk_867 : Cond.code ⟨"WhiteElephants$Sale", "settle", "(LWhiteElephants$Hall;)V"⟩ prog_7_method_11_code 6 (none : Option Jvm.ClassFile.FieldType) ∈ BW := bw_at 927 (by decide +kernel) rfl
theorem kk_872 : Cond.code ⟨"WhiteElephants", "day", "(I)I"⟩ prog_1_method_33_code 2 (some .int) ∈ BW := bw_at 932 (by decide +kernel) rfl
theorem kk_873 : Cond.methodLink "WhiteElephants" 296 ⟨"WhiteElephants$Things", "countLeft", "()I"⟩ ∈ BW := bw_at 933 (by decide +kernel) rfl
theorem kk_874 : Cond.instanceMethod ⟨"WhiteElephants$Things", "countLeft", "()I"⟩ ∈ BW := bw_at 934 (by decide +kernel) rfl
theorem kk_875 : Cond.selects "WhiteElephants$Things" ⟨"WhiteElephants$Things", "countLeft", "()I"⟩ ⟨"WhiteElephants$Things", "countLeft", "()I"⟩ ∈ BW := bw_at 935 (by decide +kernel) rfl
theorem kk_876 : Cond.code ⟨"WhiteElephants$Things", "countLeft", "()I"⟩ prog_12_method_13_code 3 (some .int) ∈ BW := bw_at 936 (by decide +kernel) rfl
theorem kk_880 : Cond.code ⟨"WhiteElephants", "morning", "()I"⟩ prog_1_method_34_code 2 (some .int) ∈ BW := bw_at 940 (by decide +kernel) rfl
theorem kk_884 : Cond.code ⟨"WhiteElephants", "shown", "(I)I"⟩ prog_1_method_35_code 2 (some .int) ∈ BW := bw_at 944 (by decide +kernel) rfl
theorem kk_885 : Cond.methodLink "WhiteElephants" 299 ⟨"WhiteElephants$Picks", "bargains", "(LWhiteElephants$Things;I)I"⟩ ∈ BW := bw_at 945 (by decide +kernel) rfl
theorem kk_886 : Cond.instanceMethod ⟨"WhiteElephants$Picks", "bargains", "(LWhiteElephants$Things;I)I"⟩ ∈ BW := bw_at 946 (by decide +kernel) rfl
theorem kk_887 : Cond.selects "WhiteElephants$Picks" ⟨"WhiteElephants$Picks", "bargains", "(LWhiteElephants$Things;I)I"⟩ ⟨"WhiteElephants$Picks", "bargains", "(LWhiteElephants$Things;I)I"⟩ ∈ BW := bw_at 947 (by decide +kernel) rfl
theorem kk_888 : Cond.code ⟨"WhiteElephants$Picks", "bargains", "(LWhiteElephants$Things;I)I"⟩ prog_6_method_2_code 4 (some .int) ∈ BW := bw_at 948 (by decide +kernel) rfl
theorem kk_898 : Cond.code ⟨"WhiteElephants", "table", "(I)I"⟩ prog_1_method_36_code 2 (some .int) ∈ BW := bw_at 958 (by decide +kernel) rfl
theorem kk_902 : Cond.code ⟨"WhiteElephants", "who", "(I)I"⟩ prog_1_method_37_code 2 (some .int) ∈ BW := bw_at 962 (by decide +kernel) rfl
theorem kk_903 : Cond.methodLink "WhiteElephants" 309 ⟨"WhiteElephants$Hall", "planTables", "()V"⟩ ∈ BW := bw_at 963 (by decide +kernel) rfl
theorem kk_904 : Cond.instanceMethod ⟨"WhiteElephants$Hall", "planTables", "()V"⟩ ∈ BW := bw_at 964 (by decide +kernel) rfl
theorem kk_905 : Cond.selects "WhiteElephants$Hall" ⟨"WhiteElephants$Hall", "planTables", "()V"⟩ ⟨"WhiteElephants$Hall", "planTables", "()V"⟩ ∈ BW := bw_at 965 (by decide +kernel) rfl
theorem kk_906 : Cond.code ⟨"WhiteElephants$Hall", "planTables", "()V"⟩ prog_3_method_7_code 4 (none : Option Jvm.ClassFile.FieldType) ∈ BW := bw_at 966 (by decide +kernel) rfl
theorem kk_908 : Cond.methodLink "WhiteElephants$Hall" 134 ⟨"java/lang/Integer", "bitCount", "(I)I"⟩ ∈ BW := bw_at 968 (by decide +kernel) rfl
theorem kk_909 : Cond.methodLink "WhiteElephants$Hall" 139 ⟨"WhiteElephants$Hall", "bestLady", "(II)I"⟩ ∈ BW := bw_at 969 (by decide +kernel) rfl
theorem kk_911 : Cond.instanceMethod ⟨"WhiteElephants$Hall", "bestLady", "(II)I"⟩ ∈ BW := bw_at 971 (by decide +kernel) rfl
theorem kk_912 : Cond.code ⟨"WhiteElephants$Hall", "bestLady", "(II)I"⟩ prog_3_method_8_code 7 (some .int) ∈ BW := bw_at 972 (by decide +kernel) rfl
theorem kk_924 : Cond.code ⟨"WhiteElephants", "sight", "(IIII)I"⟩ prog_1_method_38_code 5 (some .int) ∈ BW := bw_at 984 (by decide +kernel) rfl
theorem kk_925 : Cond.methodLink "WhiteElephants" 318 ⟨"WhiteElephants", "isPersonOrNone", "(I)Z"⟩ ∈ BW := bw_at 985 (by decide +kernel) rfl
theorem kk_926 : Cond.static ⟨"WhiteElephants", "isPersonOrNone", "(I)Z"⟩ ∈ BW := bw_at 986 (by decide +kernel) rfl
theorem kk_927 : Cond.code ⟨"WhiteElephants", "isPersonOrNone", "(I)Z"⟩ prog_1_method_56_code 1 (some .boolean) ∈ BW := bw_at 987 (by decide +kernel) rfl
theorem kk_928 : Cond.methodLink "WhiteElephants" 339 ⟨"WhiteElephants", "isPerson", "(I)Z"⟩ ∈ BW := bw_at 988 (by decide +kernel) rfl
theorem kk_929 : Cond.static ⟨"WhiteElephants", "isPerson", "(I)Z"⟩ ∈ BW := bw_at 989 (by decide +kernel) rfl
theorem kk_930 : Cond.code ⟨"WhiteElephants", "isPerson", "(I)Z"⟩ prog_1_method_55_code 1 (some .boolean) ∈ BW := bw_at 990 (by decide +kernel) rfl
theorem kk_931 : Cond.methodLink "WhiteElephants" 328 ⟨"WhiteElephants$Sightings", "add", "(IIII)I"⟩ ∈ BW := bw_at 991 (by decide +kernel) rfl
theorem kk_932 : Cond.instanceMethod ⟨"WhiteElephants$Sightings", "add", "(IIII)I"⟩ ∈ BW := bw_at 992 (by decide +kernel) rfl
theorem kk_933 : Cond.selects "WhiteElephants$Sightings" ⟨"WhiteElephants$Sightings", "add", "(IIII)I"⟩ ⟨"WhiteElephants$Sightings", "add", "(IIII)I"⟩ ∈ BW := bw_at 993 (by decide +kernel) rfl
theorem kk_934 : Cond.code ⟨"WhiteElephants$Sightings", "add", "(IIII)I"⟩ prog_10_method_3_code 5 (some .int) ∈ BW := bw_at 994 (by decide +kernel) rfl
theorem kk_938 : Cond.code ⟨"WhiteElephants", "same", "(II)I"⟩ prog_1_method_39_code 3 (some .int) ∈ BW := bw_at 998 (by decide +kernel) rfl
theorem kk_939 : Cond.methodLink "WhiteElephants" 329 ⟨"WhiteElephants$Sightings", "has", "(I)Z"⟩ ∈ BW := bw_at 999 (by decide +kernel) rfl
theorem kk_940 : Cond.instanceMethod ⟨"WhiteElephants$Sightings", "has", "(I)Z"⟩ ∈ BW := bw_at 1000 (by decide +kernel) rfl
theorem kk_941 : Cond.selects "WhiteElephants$Sightings" ⟨"WhiteElephants$Sightings", "has", "(I)Z"⟩ ⟨"WhiteElephants$Sightings", "has", "(I)Z"⟩ ∈ BW := bw_at 1001 (by decide +kernel) rfl
theorem kk_942 : Cond.code ⟨"WhiteElephants$Sightings", "has", "(I)Z"⟩ prog_10_method_2_code 2 (some .boolean) ∈ BW := bw_at 1002 (by decide +kernel) rfl
theorem kk_951 : Cond.code ⟨"WhiteElephants", "vases", "()I"⟩ prog_1_method_40_code 1 (some .int) ∈ BW := bw_at 1011 (by decide +kernel) rfl
theorem kk_952 : Cond.methodLink "WhiteElephants" 333 ⟨"WhiteElephants$Sightings", "fewestVases", "()I"⟩ ∈ BW := bw_at 1012 (by decide +kernel) rfl
theorem kk_953 : Cond.instanceMethod ⟨"WhiteElephants$Sightings", "fewestVases", "()I"⟩ ∈ BW := bw_at 1013 (by decide +kernel) rfl
theorem kk_954 : Cond.selects "WhiteElephants$Sightings" ⟨"WhiteElephants$Sightings", "fewestVases", "()I"⟩ ⟨"WhiteElephants$Sightings", "fewestVases", "()I"⟩ ∈ BW := bw_at 1014 (by decide +kernel) rfl
theorem kk_955 : Cond.code ⟨"WhiteElephants$Sightings", "fewestVases", "()I"⟩ prog_10_method_5_code 3 (some .int) ∈ BW := bw_at 1015 (by decide +kernel) rfl
theorem kk_956 : Cond.methodLink "WhiteElephants$Sightings" 41 ⟨"java/util/Arrays", "fill", "([II)V"⟩ ∈ BW := bw_at 1016 (by decide +kernel) rfl
theorem kk_957 : Cond.static ⟨"java/util/Arrays", "fill", "([II)V"⟩ ∈ BW := bw_at 1017 (by decide +kernel) rfl
theorem kk_958 : Cond.code ⟨"java/util/Arrays", "fill", "([II)V"⟩ prog_21_method_103_code 4 (none : Option Jvm.ClassFile.FieldType) ∈ BW := bw_at 1018 (by decide +kernel) rfl
theorem kk_966 : Cond.code ⟨"WhiteElephants", "longest", "()I"⟩ prog_1_method_41_code 1 (some .int) ∈ BW := bw_at 1026 (by decide +kernel) rfl
theorem kk_967 : Cond.methodLink "WhiteElephants" 336 ⟨"WhiteElephants$Sightings", "longestRow", "()I"⟩ ∈ BW := bw_at 1027 (by decide +kernel) rfl
theorem kk_968 : Cond.instanceMethod ⟨"WhiteElephants$Sightings", "longestRow", "()I"⟩ ∈ BW := bw_at 1028 (by decide +kernel) rfl
theorem kk_969 : Cond.selects "WhiteElephants$Sightings" ⟨"WhiteElephants$Sightings", "longestRow", "()I"⟩ ⟨"WhiteElephants$Sightings", "longestRow", "()I"⟩ ∈ BW := bw_at 1029 (by decide +kernel) rfl
theorem kk_970 : Cond.code ⟨"WhiteElephants$Sightings", "longestRow", "()I"⟩ prog_10_method_7_code 4 (some .int) ∈ BW := bw_at 1030 (by decide +kernel) rfl
theorem kk_979 : Cond.code ⟨"WhiteElephants", "secret", "(II)I"⟩ prog_1_method_42_code 3 (some .int) ∈ BW := bw_at 1039 (by decide +kernel) rfl
theorem kk_987 : Cond.code ⟨"WhiteElephants", "looks", "(II)I"⟩ prog_1_method_43_code 4 (some .int) ∈ BW := bw_at 1047 (by decide +kernel) rfl
theorem kk_991 : Cond.code ⟨"WhiteElephants", "laid", "(II)I"⟩ prog_1_method_44_code 3 (some .int) ∈ BW := bw_at 1051 (by decide +kernel) rfl
theorem kk_1017 : Cond.code ⟨"WhiteElephants", "shortBy", "(I)I"⟩ prog_1_method_45_code 2 (some .int) ∈ BW := bw_at 1077 (by decide +kernel) rfl
theorem kk_1018 : Cond.methodLink "WhiteElephants" 359 ⟨"WhiteElephants$Picks", "fewestPaid", "(LWhiteElephants$Things;I)I"⟩ ∈ BW := bw_at 1078 (by decide +kernel) rfl
theorem kk_1019 : Cond.instanceMethod ⟨"WhiteElephants$Picks", "fewestPaid", "(LWhiteElephants$Things;I)I"⟩ ∈ BW := bw_at 1079 (by decide +kernel) rfl
theorem kk_1020 : Cond.selects "WhiteElephants$Picks" ⟨"WhiteElephants$Picks", "fewestPaid", "(LWhiteElephants$Things;I)I"⟩ ⟨"WhiteElephants$Picks", "fewestPaid", "(LWhiteElephants$Things;I)I"⟩ ∈ BW := bw_at 1080 (by decide +kernel) rfl
theorem kk_1021 : Cond.code ⟨"WhiteElephants$Picks", "fewestPaid", "(LWhiteElephants$Things;I)I"⟩ prog_6_method_4_code 5 (some .int) ∈ BW := bw_at 1081 (by decide +kernel) rfl
theorem kk_1032 : Cond.code ⟨"WhiteElephants", "hall", "(II)I"⟩ prog_1_method_46_code 3 (some .int) ∈ BW := bw_at 1092 (by decide +kernel) rfl
theorem kk_1048 : Cond.code ⟨"WhiteElephants", "image", "()I"⟩ prog_1_method_47_code 1 (some .int) ∈ BW := bw_at 1108 (by decide +kernel) rfl
theorem kk_1049 : Cond.methodLink "WhiteElephants" 369 ⟨"WhiteElephants$Hall", "become", "(LWhiteElephants$Hall;)V"⟩ ∈ BW := bw_at 1109 (by decide +kernel) rfl
theorem kk_1050 : Cond.instanceMethod ⟨"WhiteElephants$Hall", "become", "(LWhiteElephants$Hall;)V"⟩ ∈ BW := bw_at 1110 (by decide +kernel) rfl
theorem kk_1051 : Cond.selects "WhiteElephants$Hall" ⟨"WhiteElephants$Hall", "become", "(LWhiteElephants$Hall;)V"⟩ ⟨"WhiteElephants$Hall", "become", "(LWhiteElephants$Hall;)V"⟩ ∈ BW := bw_at 1111 (by decide +kernel) rfl
theorem kk_1052 : Cond.code ⟨"WhiteElephants$Hall", "become", "(LWhiteElephants$Hall;)V"⟩ prog_3_method_11_code 2 (none : Option Jvm.ClassFile.FieldType) ∈ BW := bw_at 1112 (by decide +kernel) rfl
theorem kk_1053 : Cond.methodLink "WhiteElephants$Hall" 145 ⟨"WhiteElephants$Things", "become", "(LWhiteElephants$Things;)V"⟩ ∈ BW := bw_at 1113 (by decide +kernel) rfl
theorem kk_1054 : Cond.instanceMethod ⟨"WhiteElephants$Things", "become", "(LWhiteElephants$Things;)V"⟩ ∈ BW := bw_at 1114 (by decide +kernel) rfl
theorem kk_1055 : Cond.selects "WhiteElephants$Things" ⟨"WhiteElephants$Things", "become", "(LWhiteElephants$Things;)V"⟩ ⟨"WhiteElephants$Things", "become", "(LWhiteElephants$Things;)V"⟩ ∈ BW := bw_at 1115 (by decide +kernel) rfl
theorem kk_1056 : Cond.code ⟨"WhiteElephants$Things", "become", "(LWhiteElephants$Things;)V"⟩ prog_12_method_17_code 2 (none : Option Jvm.ClassFile.FieldType) ∈ BW := bw_at 1116 (by decide +kernel) rfl
theorem kk_1057 : Cond.methodLink "WhiteElephants$Things" 98 ⟨"java/lang/System", "arraycopy", "(Ljava/lang/Object;ILjava/lang/Object;II)V"⟩ ∈ BW := bw_at 1117 (by decide +kernel) rfl
theorem kk_1058 : Cond.methodLink "WhiteElephants$Hall" 149 ⟨"WhiteElephants$Ladies", "become", "(LWhiteElephants$Ladies;)V"⟩ ∈ BW := bw_at 1118 (by decide +kernel) rfl
theorem kk_1059 : Cond.instanceMethod ⟨"WhiteElephants$Ladies", "become", "(LWhiteElephants$Ladies;)V"⟩ ∈ BW := bw_at 1119 (by decide +kernel) rfl
theorem kk_1060 : Cond.selects "WhiteElephants$Ladies" ⟨"WhiteElephants$Ladies", "become", "(LWhiteElephants$Ladies;)V"⟩ ⟨"WhiteElephants$Ladies", "become", "(LWhiteElephants$Ladies;)V"⟩ ∈ BW := bw_at 1120 (by decide +kernel) rfl
theorem kk_1061 : Cond.code ⟨"WhiteElephants$Ladies", "become", "(LWhiteElephants$Ladies;)V"⟩ prog_4_method_4_code 2 (none : Option Jvm.ClassFile.FieldType) ∈ BW := bw_at 1121 (by decide +kernel) rfl
theorem kk_1062 : Cond.methodLink "WhiteElephants$Ladies" 29 ⟨"java/lang/System", "arraycopy", "(Ljava/lang/Object;ILjava/lang/Object;II)V"⟩ ∈ BW := bw_at 1122 (by decide +kernel) rfl
theorem kk_1063 : Cond.methodLink "WhiteElephants$Hall" 152 ⟨"WhiteElephants$Laws", "become", "(LWhiteElephants$Laws;)V"⟩ ∈ BW := bw_at 1123 (by decide +kernel) rfl
theorem kk_1064 : Cond.instanceMethod ⟨"WhiteElephants$Laws", "become", "(LWhiteElephants$Laws;)V"⟩ ∈ BW := bw_at 1124 (by decide +kernel) rfl
theorem kk_1065 : Cond.selects "WhiteElephants$Laws" ⟨"WhiteElephants$Laws", "become", "(LWhiteElephants$Laws;)V"⟩ ⟨"WhiteElephants$Laws", "become", "(LWhiteElephants$Laws;)V"⟩ ∈ BW := bw_at 1125 (by decide +kernel) rfl
theorem kk_1066 : Cond.code ⟨"WhiteElephants$Laws", "become", "(LWhiteElephants$Laws;)V"⟩ prog_5_method_7_code 2 (none : Option Jvm.ClassFile.FieldType) ∈ BW := bw_at 1126 (by decide +kernel) rfl
theorem kk_1067 : Cond.methodLink "WhiteElephants$Hall" 155 ⟨"WhiteElephants$Buyers", "become", "(LWhiteElephants$Buyers;)V"⟩ ∈ BW := bw_at 1127 (by decide +kernel) rfl
theorem kk_1068 : Cond.instanceMethod ⟨"WhiteElephants$Buyers", "become", "(LWhiteElephants$Buyers;)V"⟩ ∈ BW := bw_at 1128 (by decide +kernel) rfl
theorem kk_1069 : Cond.selects "WhiteElephants$Buyers" ⟨"WhiteElephants$Buyers", "become", "(LWhiteElephants$Buyers;)V"⟩ ⟨"WhiteElephants$Buyers", "become", "(LWhiteElephants$Buyers;)V"⟩ ∈ BW := bw_at 1129 (by decide +kernel) rfl
theorem kk_1070 : Cond.code ⟨"WhiteElephants$Buyers", "become", "(LWhiteElephants$Buyers;)V"⟩ prog_2_method_4_code 2 (none : Option Jvm.ClassFile.FieldType) ∈ BW := bw_at 1130 (by decide +kernel) rfl
theorem kk_1071 : Cond.methodLink "WhiteElephants$Buyers" 35 ⟨"java/lang/System", "arraycopy", "(Ljava/lang/Object;ILjava/lang/Object;II)V"⟩ ∈ BW := bw_at 1131 (by decide +kernel) rfl
theorem kk_1072 : Cond.methodLink "WhiteElephants$Hall" 158 ⟨"WhiteElephants$Sightings", "become", "(LWhiteElephants$Sightings;)V"⟩ ∈ BW := bw_at 1132 (by decide +kernel) rfl
theorem kk_1073 : Cond.instanceMethod ⟨"WhiteElephants$Sightings", "become", "(LWhiteElephants$Sightings;)V"⟩ ∈ BW := bw_at 1133 (by decide +kernel) rfl
theorem kk_1074 : Cond.selects "WhiteElephants$Sightings" ⟨"WhiteElephants$Sightings", "become", "(LWhiteElephants$Sightings;)V"⟩ ⟨"WhiteElephants$Sightings", "become", "(LWhiteElephants$Sightings;)V"⟩ ∈ BW := bw_at 1134 (by decide +kernel) rfl
theorem kk_1075 : Cond.code ⟨"WhiteElephants$Sightings", "become", "(LWhiteElephants$Sightings;)V"⟩ prog_10_method_9_code 2 (none : Option Jvm.ClassFile.FieldType) ∈ BW := bw_at 1135 (by decide +kernel) rfl
theorem kk_1076 : Cond.methodLink "WhiteElephants$Sightings" 65 ⟨"java/lang/System", "arraycopy", "(Ljava/lang/Object;ILjava/lang/Object;II)V"⟩ ∈ BW := bw_at 1136 (by decide +kernel) rfl
theorem kk_1077 : Cond.methodLink "WhiteElephants$Hall" 161 ⟨"WhiteElephants$Secrets", "become", "(LWhiteElephants$Secrets;)V"⟩ ∈ BW := bw_at 1137 (by decide +kernel) rfl
theorem kk_1078 : Cond.instanceMethod ⟨"WhiteElephants$Secrets", "become", "(LWhiteElephants$Secrets;)V"⟩ ∈ BW := bw_at 1138 (by decide +kernel) rfl
theorem kk_1079 : Cond.selects "WhiteElephants$Secrets" ⟨"WhiteElephants$Secrets", "become", "(LWhiteElephants$Secrets;)V"⟩ ⟨"WhiteElephants$Secrets", "become", "(LWhiteElephants$Secrets;)V"⟩ ∈ BW := bw_at 1139 (by decide +kernel) rfl
theorem kk_1080 : Cond.code ⟨"WhiteElephants$Secrets", "become", "(LWhiteElephants$Secrets;)V"⟩ prog_8_method_8_code 2 (none : Option Jvm.ClassFile.FieldType) ∈ BW := bw_at 1140 (by decide +kernel) rfl
theorem kk_1081 : Cond.methodLink "WhiteElephants$Secrets" 61 ⟨"java/lang/System", "arraycopy", "(Ljava/lang/Object;ILjava/lang/Object;II)V"⟩ ∈ BW := bw_at 1141 (by decide +kernel) rfl
theorem kk_1082 : Cond.methodLink "WhiteElephants$Hall" 164 ⟨"java/lang/System", "arraycopy", "(Ljava/lang/Object;ILjava/lang/Object;II)V"⟩ ∈ BW := bw_at 1142 (by decide +kernel) rfl
theorem kk_1086 : Cond.code ⟨"WhiteElephants", "back", "()I"⟩ prog_1_method_48_code 2 (some .int) ∈ BW := bw_at 1146 (by decide +kernel) rfl
theorem kk_1090 : Cond.code ⟨"WhiteElephants", "status", "(I)I"⟩ prog_1_method_49_code 2 (some .int) ∈ BW := bw_at 1150 (by decide +kernel) rfl
theorem kk_1091 : Cond.methodLink "WhiteElephants" 372 ⟨"WhiteElephants", "shelvesInUse", "()I"⟩ ∈ BW := bw_at 1151 (by decide +kernel) rfl
theorem kk_1093 : Cond.instanceMethod ⟨"WhiteElephants", "shelvesInUse", "()I"⟩ ∈ BW := bw_at 1153 (by decide +kernel) rfl
theorem kk_1094 : Cond.code ⟨"WhiteElephants", "shelvesInUse", "()I"⟩ prog_1_method_60_code 3 (some .int) ∈ BW := bw_at 1154 (by decide +kernel) rfl
theorem kk_1101 : Cond.fieldLink "WhiteElephantsModel" 7 "WhiteElephantsModel" "holding" "[I" ∈ BW := bw_at 1161 (by decide +kernel) rfl
theorem kk_1102 : Cond.fieldLink "WhiteElephantsModel" 13 "WhiteElephantsModel" "rowLength" "[I" ∈ BW := bw_at 1162 (by decide +kernel) rfl
theorem kk_1103 : Cond.fieldLink "WhiteElephantsModel" 16 "WhiteElephantsModel" "rowOf" "[J" ∈ BW := bw_at 1163 (by decide +kernel) rfl
theorem kk_1104 : Cond.fieldLink "WhiteElephantsModel" 135 "WhiteElephantsModel" "things" "I" ∈ BW := bw_at 1164 (by decide +kernel) rfl
theorem kk_1105 : Cond.fieldLink "WhiteElephantsModel" 20 "WhiteElephantsModel" "thKind" "[I" ∈ BW := bw_at 1165 (by decide +kernel) rfl
theorem kk_1106 : Cond.fieldLink "WhiteElephantsModel" 23 "WhiteElephantsModel" "thWorth" "[I" ∈ BW := bw_at 1166 (by decide +kernel) rfl
theorem kk_1107 : Cond.fieldLink "WhiteElephantsModel" 26 "WhiteElephantsModel" "thChips" "[I" ∈ BW := bw_at 1167 (by decide +kernel) rfl
theorem kk_1108 : Cond.fieldLink "WhiteElephantsModel" 29 "WhiteElephantsModel" "thPrice" "[I" ∈ BW := bw_at 1168 (by decide +kernel) rfl
theorem kk_1109 : Cond.fieldLink "WhiteElephantsModel" 32 "WhiteElephantsModel" "thBy" "[I" ∈ BW := bw_at 1169 (by decide +kernel) rfl
theorem kk_1110 : Cond.fieldLink "WhiteElephantsModel" 35 "WhiteElephantsModel" "thPaid" "[I" ∈ BW := bw_at 1170 (by decide +kernel) rfl
theorem kk_1111 : Cond.fieldLink "WhiteElephantsModel" 139 "WhiteElephantsModel" "ladies" "I" ∈ BW := bw_at 1171 (by decide +kernel) rfl
theorem kk_1112 : Cond.fieldLink "WhiteElephantsModel" 38 "WhiteElephantsModel" "laKnows" "[I" ∈ BW := bw_at 1172 (by decide +kernel) rfl
theorem kk_1113 : Cond.fieldLink "WhiteElephantsModel" 41 "WhiteElephantsModel" "laGuess" "[I" ∈ BW := bw_at 1173 (by decide +kernel) rfl
theorem kk_1114 : Cond.fieldLink "WhiteElephantsModel" 44 "WhiteElephantsModel" "laLaw" "[I" ∈ BW := bw_at 1174 (by decide +kernel) rfl
theorem kk_1115 : Cond.fieldLink "WhiteElephantsModel" 142 "WhiteElephantsModel" "laws" "I" ∈ BW := bw_at 1175 (by decide +kernel) rfl
theorem kk_1116 : Cond.fieldLink "WhiteElephantsModel" 47 "WhiteElephantsModel" "lawSays" "[I" ∈ BW := bw_at 1176 (by decide +kernel) rfl
theorem kk_1117 : Cond.fieldLink "WhiteElephantsModel" 199 "WhiteElephantsModel" "tapeSize" "I" ∈ BW := bw_at 1177 (by decide +kernel) rfl
theorem kk_1118 : Cond.fieldLink "WhiteElephantsModel" 50 "WhiteElephantsModel" "tape" "[I" ∈ BW := bw_at 1178 (by decide +kernel) rfl
theorem kk_1119 : Cond.fieldLink "WhiteElephantsModel" 145 "WhiteElephantsModel" "buyers" "I" ∈ BW := bw_at 1179 (by decide +kernel) rfl
theorem kk_1120 : Cond.fieldLink "WhiteElephantsModel" 53 "WhiteElephantsModel" "buHour" "[I" ∈ BW := bw_at 1180 (by decide +kernel) rfl
theorem kk_1121 : Cond.fieldLink "WhiteElephantsModel" 56 "WhiteElephantsModel" "buPurse" "[I" ∈ BW := bw_at 1181 (by decide +kernel) rfl
theorem kk_1122 : Cond.fieldLink "WhiteElephantsModel" 59 "WhiteElephantsModel" "buWishes" "[I" ∈ BW := bw_at 1182 (by decide +kernel) rfl
theorem kk_1123 : Cond.fieldLink "WhiteElephantsModel" 62 "WhiteElephantsModel" "buEye" "[I" ∈ BW := bw_at 1183 (by decide +kernel) rfl
theorem kk_1124 : Cond.fieldLink "WhiteElephantsModel" 65 "WhiteElephantsModel" "buMany" "[I" ∈ BW := bw_at 1184 (by decide +kernel) rfl
theorem kk_1125 : Cond.fieldLink "WhiteElephantsModel" 273 "WhiteElephantsModel" "tables" "I" ∈ BW := bw_at 1185 (by decide +kernel) rfl
theorem kk_1126 : Cond.fieldLink "WhiteElephantsModel" 68 "WhiteElephantsModel" "taKinds" "[I" ∈ BW := bw_at 1186 (by decide +kernel) rfl
theorem kk_1127 : Cond.fieldLink "WhiteElephantsModel" 279 "WhiteElephantsModel" "sightings" "I" ∈ BW := bw_at 1187 (by decide +kernel) rfl
theorem kk_1128 : Cond.fieldLink "WhiteElephantsModel" 71 "WhiteElephantsModel" "siYear" "[I" ∈ BW := bw_at 1188 (by decide +kernel) rfl
theorem kk_1129 : Cond.fieldLink "WhiteElephantsModel" 74 "WhiteElephantsModel" "siChips" "[I" ∈ BW := bw_at 1189 (by decide +kernel) rfl
theorem kk_1130 : Cond.fieldLink "WhiteElephantsModel" 77 "WhiteElephantsModel" "siGave" "[I" ∈ BW := bw_at 1190 (by decide +kernel) rfl
theorem kk_1131 : Cond.fieldLink "WhiteElephantsModel" 80 "WhiteElephantsModel" "siBought" "[I" ∈ BW := bw_at 1191 (by decide +kernel) rfl
theorem kk_1132 : Cond.fieldLink "WhiteElephantsModel" 288 "WhiteElephantsModel" "secrets" "I" ∈ BW := bw_at 1192 (by decide +kernel) rfl
theorem kk_1133 : Cond.fieldLink "WhiteElephantsModel" 83 "WhiteElephantsModel" "seThing" "[I" ∈ BW := bw_at 1193 (by decide +kernel) rfl
theorem kk_1134 : Cond.fieldLink "WhiteElephantsModel" 86 "WhiteElephantsModel" "sePerson" "[I" ∈ BW := bw_at 1194 (by decide +kernel) rfl
theorem kk_1135 : Cond.fieldLink "WhiteElephantsModel" 89 "WhiteElephantsModel" "looksAt" "[I" ∈ BW := bw_at 1195 (by decide +kernel) rfl
theorem kk_1136 : Cond.fieldLink "WhiteElephantsModel" 92 "WhiteElephantsModel" "hours" "[I" ∈ BW := bw_at 1196 (by decide +kernel) rfl
theorem kk_1137 : Cond.fieldLink "WhiteElephantsModel" 95 "WhiteElephantsModel" "refusals" "[I" ∈ BW := bw_at 1197 (by decide +kernel) rfl
theorem kk_1138 : Cond.fieldLink "WhiteElephantsModel" 310 "WhiteElephantsModel" "isImage" "Z" ∈ BW := bw_at 1198 (by decide +kernel) rfl
theorem kk_1139 : Cond.fieldLink "WhiteElephantsModel" 98 "WhiteElephantsModel" "kept" "[I" ∈ BW := bw_at 1199 (by decide +kernel) rfl
theorem kk_1140 : Cond.fieldLink "WhiteElephantsModel" 101 "WhiteElephantsModel" "counts" "[I" ∈ BW := bw_at 1200 (by decide +kernel) rfl
theorem kk_1143 : Cond.fieldLink "WhiteElephantsModel" 111 "WhiteElephantsModel" "best" "[I" ∈ BW := bw_at 1203 (by decide +kernel) rfl
theorem kk_1151 : Cond.fieldLink "WhiteElephantsModel" 294 "WhiteElephantsModel" "fewest" "[B" ∈ BW := bw_at 1211 (by decide +kernel) rfl
theorem kk_1259 : Cond.code ⟨"WhiteElephantsModel", "row", "(III)I"⟩ prog_14_method_15_code 5 (some .int) ∈ BW := bw_at 1319 (by decide +kernel) rfl
theorem kk_1260 : Cond.methodLink "WhiteElephantsModel" 148 ⟨"WhiteElephantsModel", "isShelf", "(I)Z"⟩ ∈ BW := bw_at 1320 (by decide +kernel) rfl
theorem kk_1262 : Cond.instanceMethod ⟨"WhiteElephantsModel", "isShelf", "(I)Z"⟩ ∈ BW := bw_at 1322 (by decide +kernel) rfl
theorem kk_1263 : Cond.code ⟨"WhiteElephantsModel", "isShelf", "(I)Z"⟩ prog_14_method_3_code 2 (some .boolean) ∈ BW := bw_at 1323 (by decide +kernel) rfl
theorem kk_1264 : Cond.methodLink "WhiteElephantsModel" 152 ⟨"WhiteElephantsModel", "no", "(I)I"⟩ ∈ BW := bw_at 1324 (by decide +kernel) rfl
theorem kk_1266 : Cond.instanceMethod ⟨"WhiteElephantsModel", "no", "(I)I"⟩ ∈ BW := bw_at 1326 (by decide +kernel) rfl
theorem kk_1267 : Cond.code ⟨"WhiteElephantsModel", "no", "(I)I"⟩ prog_14_method_2_code 2 (some .int) ∈ BW := bw_at 1327 (by decide +kernel) rfl
theorem kk_1271 : Cond.code ⟨"WhiteElephantsModel", "set", "(IIJ)I"⟩ prog_14_method_17_code 9 (some .int) ∈ BW := bw_at 1331 (by decide +kernel) rfl
theorem kk_1272 : Cond.methodLink "WhiteElephantsModel" 159 ⟨"WhiteElephantsModel", "noRow", "(I)I"⟩ ∈ BW := bw_at 1332 (by decide +kernel) rfl
theorem kk_1274 : Cond.instanceMethod ⟨"WhiteElephantsModel", "noRow", "(I)I"⟩ ∈ BW := bw_at 1334 (by decide +kernel) rfl
theorem kk_1275 : Cond.code ⟨"WhiteElephantsModel", "noRow", "(I)I"⟩ prog_14_method_16_code 2 (some .int) ∈ BW := bw_at 1335 (by decide +kernel) rfl
theorem kk_1276 : Cond.methodLink "WhiteElephantsModel" 156 ⟨"WhiteElephantsModel", "holdsThing", "(I)Z"⟩ ∈ BW := bw_at 1336 (by decide +kernel) rfl
theorem kk_1278 : Cond.instanceMethod ⟨"WhiteElephantsModel", "holdsThing", "(I)Z"⟩ ∈ BW := bw_at 1338 (by decide +kernel) rfl
theorem kk_1279 : Cond.code ⟨"WhiteElephantsModel", "holdsThing", "(I)Z"⟩ prog_14_method_5_code 2 (some .boolean) ∈ BW := bw_at 1339 (by decide +kernel) rfl
theorem kk_1283 : Cond.code ⟨"WhiteElephantsModel", "copy", "(IIIII)I"⟩ prog_14_method_18_code 7 (some .int) ∈ BW := bw_at 1343 (by decide +kernel) rfl
theorem kk_1284 : Cond.methodLink "WhiteElephantsModel" 162 ⟨"WhiteElephantsModel", "isRow", "(I)Z"⟩ ∈ BW := bw_at 1344 (by decide +kernel) rfl
theorem kk_1286 : Cond.instanceMethod ⟨"WhiteElephantsModel", "isRow", "(I)Z"⟩ ∈ BW := bw_at 1346 (by decide +kernel) rfl
theorem kk_1287 : Cond.code ⟨"WhiteElephantsModel", "isRow", "(I)Z"⟩ prog_14_method_4_code 2 (some .boolean) ∈ BW := bw_at 1347 (by decide +kernel) rfl
theorem kk_1291 : Cond.code ⟨"WhiteElephantsModel", "element", "(II)J"⟩ prog_14_method_19_code 3 (some .long) ∈ BW := bw_at 1351 (by decide +kernel) rfl
theorem kk_1295 : Cond.code ⟨"WhiteElephantsModel", "holds", "(I)I"⟩ prog_14_method_20_code 2 (some .int) ∈ BW := bw_at 1355 (by decide +kernel) rfl
theorem kk_1299 : Cond.code ⟨"WhiteElephantsModel", "show", "(II)I"⟩ prog_14_method_21_code 3 (some .int) ∈ BW := bw_at 1359 (by decide +kernel) rfl
theorem kk_1300 : Cond.methodLink "WhiteElephantsModel" 165 ⟨"WhiteElephantsModel", "isThing", "(I)Z"⟩ ∈ BW := bw_at 1360 (by decide +kernel) rfl
theorem kk_1302 : Cond.instanceMethod ⟨"WhiteElephantsModel", "isThing", "(I)Z"⟩ ∈ BW := bw_at 1362 (by decide +kernel) rfl
theorem kk_1303 : Cond.code ⟨"WhiteElephantsModel", "isThing", "(I)Z"⟩ prog_14_method_6_code 2 (some .boolean) ∈ BW := bw_at 1363 (by decide +kernel) rfl
theorem kk_1307 : Cond.code ⟨"WhiteElephantsModel", "says", "(II)I"⟩ prog_14_method_23_code 4 (some .int) ∈ BW := bw_at 1367 (by decide +kernel) rfl
theorem kk_1308 : Cond.methodLink "WhiteElephantsModel" 168 ⟨"WhiteElephantsModel", "isKind", "(I)Z"⟩ ∈ BW := bw_at 1368 (by decide +kernel) rfl
theorem kk_1310 : Cond.instanceMethod ⟨"WhiteElephantsModel", "isKind", "(I)Z"⟩ ∈ BW := bw_at 1370 (by decide +kernel) rfl
theorem kk_1311 : Cond.code ⟨"WhiteElephantsModel", "isKind", "(I)Z"⟩ prog_14_method_11_code 2 (some .boolean) ∈ BW := bw_at 1371 (by decide +kernel) rfl
theorem kk_1331 : Cond.code ⟨"WhiteElephantsModel", "thing", "(III)I"⟩ prog_14_method_26_code 5 (some .int) ∈ BW := bw_at 1391 (by decide +kernel) rfl
theorem kk_1335 : Cond.code ⟨"WhiteElephantsModel", "things", "(III)I"⟩ prog_14_method_27_code 8 (some .int) ∈ BW := bw_at 1395 (by decide +kernel) rfl
theorem kk_1341 : Cond.code ⟨"WhiteElephantsModel", "thingOf", "(II)I"⟩ prog_14_method_28_code 3 (some .int) ∈ BW := bw_at 1401 (by decide +kernel) rfl
theorem kk_1345 : Cond.code ⟨"WhiteElephantsModel", "chip", "(II)I"⟩ prog_14_method_29_code 3 (some .int) ∈ BW := bw_at 1405 (by decide +kernel) rfl
theorem kk_1349 : Cond.code ⟨"WhiteElephantsModel", "lady", "(II)I"⟩ prog_14_method_30_code 3 (some .int) ∈ BW := bw_at 1409 (by decide +kernel) rfl
theorem kk_1350 : Cond.methodLink "WhiteElephantsModel" 190 ⟨"WhiteElephantsModel", "areKinds", "(I)Z"⟩ ∈ BW := bw_at 1410 (by decide +kernel) rfl
theorem kk_1352 : Cond.instanceMethod ⟨"WhiteElephantsModel", "areKinds", "(I)Z"⟩ ∈ BW := bw_at 1412 (by decide +kernel) rfl
theorem kk_1353 : Cond.code ⟨"WhiteElephantsModel", "areKinds", "(I)Z"⟩ prog_14_method_12_code 2 (some .boolean) ∈ BW := bw_at 1413 (by decide +kernel) rfl
theorem kk_1357 : Cond.code ⟨"WhiteElephantsModel", "goes", "(II)I"⟩ prog_14_method_31_code 4 (some .int) ∈ BW := bw_at 1417 (by decide +kernel) rfl
theorem kk_1358 : Cond.methodLink "WhiteElephantsModel" 193 ⟨"WhiteElephantsModel", "isLady", "(I)Z"⟩ ∈ BW := bw_at 1418 (by decide +kernel) rfl
theorem kk_1360 : Cond.instanceMethod ⟨"WhiteElephantsModel", "isLady", "(I)Z"⟩ ∈ BW := bw_at 1420 (by decide +kernel) rfl
theorem kk_1361 : Cond.code ⟨"WhiteElephantsModel", "isLady", "(I)Z"⟩ prog_14_method_7_code 2 (some .boolean) ∈ BW := bw_at 1421 (by decide +kernel) rfl
theorem kk_1362 : Cond.methodLink "WhiteElephantsModel" 196 ⟨"WhiteElephantsModel", "isLaw", "(I)Z"⟩ ∈ BW := bw_at 1422 (by decide +kernel) rfl
theorem kk_1364 : Cond.instanceMethod ⟨"WhiteElephantsModel", "isLaw", "(I)Z"⟩ ∈ BW := bw_at 1424 (by decide +kernel) rfl
theorem kk_1365 : Cond.code ⟨"WhiteElephantsModel", "isLaw", "(I)Z"⟩ prog_14_method_8_code 2 (some .boolean) ∈ BW := bw_at 1425 (by decide +kernel) rfl
theorem kk_1369 : Cond.code ⟨"WhiteElephantsModel", "feed", "(II)I"⟩ prog_14_method_32_code 4 (some .int) ∈ BW := bw_at 1429 (by decide +kernel) rfl
theorem kk_1373 : Cond.code ⟨"WhiteElephantsModel", "wipe", "()I"⟩ prog_14_method_33_code 2 (some .int) ∈ BW := bw_at 1433 (by decide +kernel) rfl
theorem kk_1412 : Cond.code ⟨"WhiteElephantsModel", "lawOf", "(II)I"⟩ prog_14_method_41_code 3 (some .int) ∈ BW := bw_at 1472 (by decide +kernel) rfl
theorem kk_1416 : Cond.code ⟨"WhiteElephantsModel", "thinks", "(IIZ)I"⟩ prog_14_method_44_code 4 (some .int) ∈ BW := bw_at 1476 (by decide +kernel) rfl
theorem kk_1428 : Cond.code ⟨"WhiteElephantsModel", "price", "(II)I"⟩ prog_14_method_45_code 5 (some .int) ∈ BW := bw_at 1488 (by decide +kernel) rfl
theorem kk_1432 : Cond.code ⟨"WhiteElephantsModel", "mark", "(II)I"⟩ prog_14_method_46_code 4 (some .int) ∈ BW := bw_at 1492 (by decide +kernel) rfl
theorem kk_1436 : Cond.code ⟨"WhiteElephantsModel", "buyer", "(IIII)I"⟩ prog_14_method_47_code 5 (some .int) ∈ BW := bw_at 1496 (by decide +kernel) rfl
theorem kk_1437 : Cond.methodLink "WhiteElephantsModel" 248 ⟨"WhiteElephantsModel", "isHour", "(I)Z"⟩ ∈ BW := bw_at 1497 (by decide +kernel) rfl
theorem kk_1439 : Cond.instanceMethod ⟨"WhiteElephantsModel", "isHour", "(I)Z"⟩ ∈ BW := bw_at 1499 (by decide +kernel) rfl
theorem kk_1440 : Cond.code ⟨"WhiteElephantsModel", "isHour", "(I)Z"⟩ prog_14_method_10_code 2 (some .boolean) ∈ BW := bw_at 1500 (by decide +kernel) rfl
theorem kk_1444 : Cond.code ⟨"WhiteElephantsModel", "buyerOf", "(II)I"⟩ prog_14_method_48_code 3 (some .int) ∈ BW := bw_at 1504 (by decide +kernel) rfl
theorem kk_1445 : Cond.methodLink "WhiteElephantsModel" 251 ⟨"WhiteElephantsModel", "isBuyer", "(I)Z"⟩ ∈ BW := bw_at 1505 (by decide +kernel) rfl
theorem kk_1447 : Cond.instanceMethod ⟨"WhiteElephantsModel", "isBuyer", "(I)Z"⟩ ∈ BW := bw_at 1507 (by decide +kernel) rfl
theorem kk_1448 : Cond.code ⟨"WhiteElephantsModel", "isBuyer", "(I)Z"⟩ prog_14_method_9_code 2 (some .boolean) ∈ BW := bw_at 1508 (by decide +kernel) rfl
theorem kk_1452 : Cond.code ⟨"WhiteElephantsModel", "turn", "(II)I"⟩ prog_14_method_49_code 4 (some .int) ∈ BW := bw_at 1512 (by decide +kernel) rfl
theorem kk_1456 : Cond.code ⟨"WhiteElephantsModel", "costs", "(II)I"⟩ prog_14_method_51_code 3 (some .int) ∈ BW := bw_at 1516 (by decide +kernel) rfl
theorem kk_1464 : Cond.code ⟨"WhiteElephantsModel", "takes", "(II)I"⟩ prog_14_method_54_code 3 (some .int) ∈ BW := bw_at 1524 (by decide +kernel) rfl
theorem kk_1465 : Cond.methodLink "WhiteElephantsModel" 258 ⟨"WhiteElephantsModel", "asNow", "()V"⟩ ∈ BW := bw_at 1525 (by decide +kernel) rfl
theorem kk_1467 : Cond.instanceMethod ⟨"WhiteElephantsModel", "asNow", "()V"⟩ ∈ BW := bw_at 1527 (by decide +kernel) rfl
theorem kk_1468 : Cond.code ⟨"WhiteElephantsModel", "asNow", "()V"⟩ prog_14_method_53_code 2 (none : Option Jvm.ClassFile.FieldType) ∈ BW := bw_at 1528 (by decide +kernel) rfl
theorem kk_1476 : Cond.code ⟨"WhiteElephantsModel", "takings", "(II)I"⟩ prog_14_method_56_code 3 (some .int) ∈ BW := bw_at 1536 (by decide +kernel) rfl
theorem kk_1477 : Cond.methodLink "WhiteElephantsModel" 264 ⟨"WhiteElephantsModel", "wholeDay", "(II)I"⟩ ∈ BW := bw_at 1537 (by decide +kernel) rfl
theorem kk_1479 : Cond.instanceMethod ⟨"WhiteElephantsModel", "wholeDay", "(II)I"⟩ ∈ BW := bw_at 1539 (by decide +kernel) rfl
theorem kk_1480 : Cond.code ⟨"WhiteElephantsModel", "wholeDay", "(II)I"⟩ prog_14_method_55_code 8 (some .int) ∈ BW := bw_at 1540 (by decide +kernel) rfl
theorem kk_1484 : Cond.code ⟨"WhiteElephantsModel", "best", "()I"⟩ prog_14_method_57_code 6 (some .int) ∈ BW := bw_at 1544 (by decide +kernel) rfl
theorem kk_1488 : Cond.code ⟨"WhiteElephantsModel", "judge", "(I)I"⟩ prog_14_method_58_code 9 (some .int) ∈ BW := bw_at 1548 (by decide +kernel) rfl
theorem kk_1492 : Cond.code ⟨"WhiteElephantsModel", "rest", "(I)I"⟩ prog_14_method_59_code 4 (some .int) ∈ BW := bw_at 1552 (by decide +kernel) rfl
theorem kk_1496 : Cond.code ⟨"WhiteElephantsModel", "loses", "(II)I"⟩ prog_14_method_60_code 3 (some .int) ∈ BW := bw_at 1556 (by decide +kernel) rfl
theorem kk_1504 : Cond.code ⟨"WhiteElephantsModel", "go", "(I)I"⟩ prog_14_method_61_code 8 (some .int) ∈ BW := bw_at 1564 (by decide +kernel) rfl
theorem kk_1508 : Cond.code ⟨"WhiteElephantsModel", "day", "(I)I"⟩ prog_14_method_63_code 2 (some .int) ∈ BW := bw_at 1568 (by decide +kernel) rfl
theorem kk_1509 : Cond.methodLink "WhiteElephantsModel" 270 ⟨"WhiteElephantsModel", "sold", "()I"⟩ ∈ BW := bw_at 1569 (by decide +kernel) rfl
theorem kk_1511 : Cond.instanceMethod ⟨"WhiteElephantsModel", "sold", "()I"⟩ ∈ BW := bw_at 1571 (by decide +kernel) rfl
theorem kk_1512 : Cond.code ⟨"WhiteElephantsModel", "sold", "()I"⟩ prog_14_method_62_code 3 (some .int) ∈ BW := bw_at 1572 (by decide +kernel) rfl
theorem kk_1516 : Cond.code ⟨"WhiteElephantsModel", "morning", "()I"⟩ prog_14_method_64_code 2 (some .int) ∈ BW := bw_at 1576 (by decide +kernel) rfl
theorem kk_1520 : Cond.code ⟨"WhiteElephantsModel", "shown", "(I)I"⟩ prog_14_method_65_code 8 (some .int) ∈ BW := bw_at 1580 (by decide +kernel) rfl
theorem kk_1524 : Cond.code ⟨"WhiteElephantsModel", "table", "(I)I"⟩ prog_14_method_66_code 2 (some .int) ∈ BW := bw_at 1584 (by decide +kernel) rfl
theorem kk_1528 : Cond.code ⟨"WhiteElephantsModel", "who", "(I)I"⟩ prog_14_method_68_code 13 (some .int) ∈ BW := bw_at 1588 (by decide +kernel) rfl
theorem kk_1532 : Cond.code ⟨"WhiteElephantsModel", "sight", "(IIII)I"⟩ prog_14_method_69_code 5 (some .int) ∈ BW := bw_at 1592 (by decide +kernel) rfl
theorem kk_1533 : Cond.methodLink "WhiteElephantsModel" 276 ⟨"WhiteElephantsModel", "isPerson", "(I)Z"⟩ ∈ BW := bw_at 1593 (by decide +kernel) rfl
theorem kk_1535 : Cond.instanceMethod ⟨"WhiteElephantsModel", "isPerson", "(I)Z"⟩ ∈ BW := bw_at 1595 (by decide +kernel) rfl
theorem kk_1536 : Cond.code ⟨"WhiteElephantsModel", "isPerson", "(I)Z"⟩ prog_14_method_13_code 2 (some .boolean) ∈ BW := bw_at 1596 (by decide +kernel) rfl
theorem kk_1540 : Cond.code ⟨"WhiteElephantsModel", "same", "(II)I"⟩ prog_14_method_71_code 3 (some .int) ∈ BW := bw_at 1600 (by decide +kernel) rfl
theorem kk_1548 : Cond.code ⟨"WhiteElephantsModel", "vases", "()I"⟩ prog_14_method_73_code 3 (some .int) ∈ BW := bw_at 1608 (by decide +kernel) rfl
theorem kk_1556 : Cond.code ⟨"WhiteElephantsModel", "longest", "()I"⟩ prog_14_method_74_code 5 (some .int) ∈ BW := bw_at 1616 (by decide +kernel) rfl
theorem kk_1560 : Cond.code ⟨"WhiteElephantsModel", "secret", "(II)I"⟩ prog_14_method_75_code 3 (some .int) ∈ BW := bw_at 1620 (by decide +kernel) rfl
theorem kk_1564 : Cond.code ⟨"WhiteElephantsModel", "looks", "(II)I"⟩ prog_14_method_76_code 4 (some .int) ∈ BW := bw_at 1624 (by decide +kernel) rfl
theorem kk_1568 : Cond.code ⟨"WhiteElephantsModel", "laid", "(II)I"⟩ prog_14_method_78_code 6 (some .int) ∈ BW := bw_at 1628 (by decide +kernel) rfl
theorem kk_1576 : Cond.code ⟨"WhiteElephantsModel", "shortBy", "(I)I"⟩ prog_14_method_79_code 8 (some .int) ∈ BW := bw_at 1636 (by decide +kernel) rfl
theorem kk_1577 : Cond.constant "WhiteElephantsModel" 298 (310000 : Int32) ∈ BW := bw_at 1637 (by decide +kernel) rfl
theorem kk_1581 : Cond.code ⟨"WhiteElephantsModel", "hall", "(II)I"⟩ prog_14_method_81_code 5 (some .int) ∈ BW := bw_at 1641 (by decide +kernel) rfl
theorem kk_1589 : Cond.code ⟨"WhiteElephantsModel", "image", "()I"⟩ prog_14_method_84_code 1 (some .int) ∈ BW := bw_at 1649 (by decide +kernel) rfl
theorem kk_1590 : Cond.methodLink "WhiteElephantsModel" 306 ⟨"WhiteElephantsModel", "moveAll", "(Z)V"⟩ ∈ BW := bw_at 1650 (by decide +kernel) rfl
theorem kk_1592 : Cond.instanceMethod ⟨"WhiteElephantsModel", "moveAll", "(Z)V"⟩ ∈ BW := bw_at 1652 (by decide +kernel) rfl
theorem kk_1593 : Cond.code ⟨"WhiteElephantsModel", "moveAll", "(Z)V"⟩ prog_14_method_83_code 3 (none : Option Jvm.ClassFile.FieldType) ∈ BW := bw_at 1653 (by decide +kernel) rfl
theorem kk_1594 : Cond.methodLink "WhiteElephantsModel" 302 ⟨"WhiteElephantsModel", "move", "([IIZ)I"⟩ ∈ BW := bw_at 1654 (by decide +kernel) rfl
theorem kk_1596 : Cond.instanceMethod ⟨"WhiteElephantsModel", "move", "([IIZ)I"⟩ ∈ BW := bw_at 1656 (by decide +kernel) rfl
theorem kk_1597 : Cond.code ⟨"WhiteElephantsModel", "move", "([IIZ)I"⟩ prog_14_method_82_code 5 (some .int) ∈ BW := bw_at 1657 (by decide +kernel) rfl
theorem kk_1601 : Cond.code ⟨"WhiteElephantsModel", "back", "()I"⟩ prog_14_method_85_code 2 (some .int) ∈ BW := bw_at 1661 (by decide +kernel) rfl
theorem kk_1605 : Cond.code ⟨"WhiteElephantsModel", "status", "(I)I"⟩ prog_14_method_86_code 4 (some .int) ∈ BW := bw_at 1665 (by decide +kernel) rfl
theorem dd_J6_bitCount_0f7a4_0 : decode mb_J6_bitCount_0f7a4 0 = .ok (.iload_n 0, 1) := by decide +kernel
theorem dd_J6_bitCount_0f7a4_1 : decode mb_J6_bitCount_0f7a4 1 = .ok (.iload_n 0, 1) := by decide +kernel
theorem dd_J6_bitCount_0f7a4_2 : decode mb_J6_bitCount_0f7a4 2 = .ok (.iconst 1, 1) := by decide +kernel
theorem dd_J6_bitCount_0f7a4_3 : decode mb_J6_bitCount_0f7a4 3 = .ok (.iushr, 1) := by decide +kernel
theorem dd_J6_bitCount_0f7a4_4 : decode mb_J6_bitCount_0f7a4 4 = .ok (.ldc_w 265, 3) := by decide +kernel
theorem dd_J6_bitCount_0f7a4_7 : decode mb_J6_bitCount_0f7a4 7 = .ok (.iand, 1) := by decide +kernel
theorem dd_J6_bitCount_0f7a4_8 : decode mb_J6_bitCount_0f7a4 8 = .ok (.isub, 1) := by decide +kernel
theorem dd_J6_bitCount_0f7a4_9 : decode mb_J6_bitCount_0f7a4 9 = .ok (.istore_n 0, 1) := by decide +kernel
theorem dd_J6_bitCount_0f7a4_10 : decode mb_J6_bitCount_0f7a4 10 = .ok (.iload_n 0, 1) := by decide +kernel
theorem dd_J6_bitCount_0f7a4_11 : decode mb_J6_bitCount_0f7a4 11 = .ok (.ldc_w 266, 3) := by decide +kernel
theorem dd_J6_bitCount_0f7a4_14 : decode mb_J6_bitCount_0f7a4 14 = .ok (.iand, 1) := by decide +kernel
theorem dd_J6_bitCount_0f7a4_15 : decode mb_J6_bitCount_0f7a4 15 = .ok (.iload_n 0, 1) := by decide +kernel
theorem dd_J6_bitCount_0f7a4_16 : decode mb_J6_bitCount_0f7a4 16 = .ok (.iconst 2, 1) := by decide +kernel
theorem dd_J6_bitCount_0f7a4_17 : decode mb_J6_bitCount_0f7a4 17 = .ok (.iushr, 1) := by decide +kernel
theorem dd_J6_bitCount_0f7a4_18 : decode mb_J6_bitCount_0f7a4 18 = .ok (.ldc_w 266, 3) := by decide +kernel
theorem dd_J6_bitCount_0f7a4_21 : decode mb_J6_bitCount_0f7a4 21 = .ok (.iand, 1) := by decide +kernel
theorem dd_J6_bitCount_0f7a4_22 : decode mb_J6_bitCount_0f7a4 22 = .ok (.iadd, 1) := by decide +kernel
theorem dd_J6_bitCount_0f7a4_23 : decode mb_J6_bitCount_0f7a4 23 = .ok (.istore_n 0, 1) := by decide +kernel
theorem dd_J6_bitCount_0f7a4_24 : decode mb_J6_bitCount_0f7a4 24 = .ok (.iload_n 0, 1) := by decide +kernel
theorem dd_J6_bitCount_0f7a4_25 : decode mb_J6_bitCount_0f7a4 25 = .ok (.iload_n 0, 1) := by decide +kernel
theorem dd_J6_bitCount_0f7a4_26 : decode mb_J6_bitCount_0f7a4 26 = .ok (.iconst 4, 1) := by decide +kernel
theorem dd_J6_bitCount_0f7a4_27 : decode mb_J6_bitCount_0f7a4 27 = .ok (.iushr, 1) := by decide +kernel
theorem dd_J6_bitCount_0f7a4_28 : decode mb_J6_bitCount_0f7a4 28 = .ok (.iadd, 1) := by decide +kernel
theorem dd_J6_bitCount_0f7a4_29 : decode mb_J6_bitCount_0f7a4 29 = .ok (.ldc_w 267, 3) := by decide +kernel
theorem dd_J6_bitCount_0f7a4_32 : decode mb_J6_bitCount_0f7a4 32 = .ok (.iand, 1) := by decide +kernel
theorem dd_J6_bitCount_0f7a4_33 : decode mb_J6_bitCount_0f7a4 33 = .ok (.istore_n 0, 1) := by decide +kernel
theorem dd_J6_bitCount_0f7a4_34 : decode mb_J6_bitCount_0f7a4 34 = .ok (.iload_n 0, 1) := by decide +kernel
theorem dd_J6_bitCount_0f7a4_35 : decode mb_J6_bitCount_0f7a4 35 = .ok (.iload_n 0, 1) := by decide +kernel
theorem dd_J6_bitCount_0f7a4_36 : decode mb_J6_bitCount_0f7a4 36 = .ok (.bipush 8, 2) := by decide +kernel
theorem dd_J6_bitCount_0f7a4_38 : decode mb_J6_bitCount_0f7a4 38 = .ok (.iushr, 1) := by decide +kernel
theorem dd_J6_bitCount_0f7a4_39 : decode mb_J6_bitCount_0f7a4 39 = .ok (.iadd, 1) := by decide +kernel
theorem dd_J6_bitCount_0f7a4_40 : decode mb_J6_bitCount_0f7a4 40 = .ok (.istore_n 0, 1) := by decide +kernel
theorem dd_J6_bitCount_0f7a4_41 : decode mb_J6_bitCount_0f7a4 41 = .ok (.iload_n 0, 1) := by decide +kernel
theorem dd_J6_bitCount_0f7a4_42 : decode mb_J6_bitCount_0f7a4 42 = .ok (.iload_n 0, 1) := by decide +kernel
theorem dd_J6_bitCount_0f7a4_43 : decode mb_J6_bitCount_0f7a4 43 = .ok (.bipush 16, 2) := by decide +kernel
theorem dd_J6_bitCount_0f7a4_45 : decode mb_J6_bitCount_0f7a4 45 = .ok (.iushr, 1) := by decide +kernel
theorem dd_J6_bitCount_0f7a4_46 : decode mb_J6_bitCount_0f7a4 46 = .ok (.iadd, 1) := by decide +kernel
theorem dd_J6_bitCount_0f7a4_47 : decode mb_J6_bitCount_0f7a4 47 = .ok (.istore_n 0, 1) := by decide +kernel
theorem dd_J6_bitCount_0f7a4_48 : decode mb_J6_bitCount_0f7a4 48 = .ok (.iload_n 0, 1) := by decide +kernel
theorem dd_J6_bitCount_0f7a4_49 : decode mb_J6_bitCount_0f7a4 49 = .ok (.bipush 63, 2) := by decide +kernel
theorem dd_J6_bitCount_0f7a4_51 : decode mb_J6_bitCount_0f7a4 51 = .ok (.iand, 1) := by decide +kernel
theorem dd_J6_bitCount_0f7a4_52 : decode mb_J6_bitCount_0f7a4 52 = .ok (.ireturn, 1) := by decide +kernel
theorem dd_J7_fill_53178_0 : decode mb_J7_fill_53178 0 = .ok (.iconst 0, 1) := by decide +kernel
theorem dd_J7_fill_53178_1 : decode mb_J7_fill_53178 1 = .ok (.istore_n 2, 1) := by decide +kernel
theorem dd_J7_fill_53178_2 : decode mb_J7_fill_53178 2 = .ok (.aload_n 0, 1) := by decide +kernel
theorem dd_J7_fill_53178_3 : decode mb_J7_fill_53178 3 = .ok (.arraylength, 1) := by decide +kernel
theorem dd_J7_fill_53178_4 : decode mb_J7_fill_53178 4 = .ok (.istore_n 3, 1) := by decide +kernel
theorem dd_J7_fill_53178_5 : decode mb_J7_fill_53178 5 = .ok (.iload_n 2, 1) := by decide +kernel
theorem dd_J7_fill_53178_6 : decode mb_J7_fill_53178 6 = .ok (.iload_n 3, 1) := by decide +kernel
theorem dd_J7_fill_53178_7 : decode mb_J7_fill_53178 7 = .ok (.if_icmp .ge 13, 3) := by decide +kernel
theorem dd_J7_fill_53178_10 : decode mb_J7_fill_53178 10 = .ok (.aload_n 0, 1) := by decide +kernel
theorem dd_J7_fill_53178_11 : decode mb_J7_fill_53178 11 = .ok (.iload_n 2, 1) := by decide +kernel
theorem dd_J7_fill_53178_12 : decode mb_J7_fill_53178 12 = .ok (.iload_n 1, 1) := by decide +kernel
theorem dd_J7_fill_53178_13 : decode mb_J7_fill_53178 13 = .ok (.iastore, 1) := by decide +kernel
theorem dd_J7_fill_53178_14 : decode mb_J7_fill_53178 14 = .ok (.iinc 2 1, 3) := by decide +kernel
theorem dd_J7_fill_53178_17 : decode mb_J7_fill_53178 17 = .ok (.goto (-12), 3) := by decide +kernel
theorem dd_J7_fill_53178_20 : decode mb_J7_fill_53178 20 = .ok (.return_, 1) := by decide +kernel
theorem dd_J7_fill_d0a16_0 : decode mb_J7_fill_d0a16 0 = .ok (.iconst 0, 1) := by decide +kernel
theorem dd_J7_fill_d0a16_1 : decode mb_J7_fill_d0a16 1 = .ok (.istore_n 3, 1) := by decide +kernel
theorem dd_J7_fill_d0a16_2 : decode mb_J7_fill_d0a16 2 = .ok (.aload_n 0, 1) := by decide +kernel
theorem dd_J7_fill_d0a16_3 : decode mb_J7_fill_d0a16 3 = .ok (.arraylength, 1) := by decide +kernel
theorem dd_J7_fill_d0a16_4 : decode mb_J7_fill_d0a16 4 = .ok (.istore 4, 2) := by decide +kernel
theorem dd_J7_fill_d0a16_6 : decode mb_J7_fill_d0a16 6 = .ok (.iload_n 3, 1) := by decide +kernel
theorem dd_J7_fill_d0a16_7 : decode mb_J7_fill_d0a16 7 = .ok (.iload 4, 2) := by decide +kernel
theorem dd_J7_fill_d0a16_9 : decode mb_J7_fill_d0a16 9 = .ok (.if_icmp .ge 13, 3) := by decide +kernel
theorem dd_J7_fill_d0a16_12 : decode mb_J7_fill_d0a16 12 = .ok (.aload_n 0, 1) := by decide +kernel
theorem dd_J7_fill_d0a16_13 : decode mb_J7_fill_d0a16 13 = .ok (.iload_n 3, 1) := by decide +kernel
theorem dd_J7_fill_d0a16_14 : decode mb_J7_fill_d0a16 14 = .ok (.lload_n 1, 1) := by decide +kernel
theorem dd_J7_fill_d0a16_15 : decode mb_J7_fill_d0a16 15 = .ok (.lastore, 1) := by decide +kernel
theorem dd_J7_fill_d0a16_16 : decode mb_J7_fill_d0a16 16 = .ok (.iinc 3 1, 3) := by decide +kernel
theorem dd_J7_fill_d0a16_19 : decode mb_J7_fill_d0a16 19 = .ok (.goto (-13), 3) := by decide +kernel
theorem dd_J7_fill_d0a16_22 : decode mb_J7_fill_d0a16 22 = .ok (.return_, 1) := by decide +kernel
theorem dd_X0_add_0 : decode mb_X0_add 0 = .ok (.aload_n 0, 1) := by decide +kernel
theorem dd_X0_add_1 : decode mb_X0_add 1 = .ok (.getfield 9, 3) := by decide +kernel
theorem dd_X0_add_4 : decode mb_X0_add 4 = .ok (.aload_n 0, 1) := by decide +kernel
theorem dd_X0_add_5 : decode mb_X0_add 5 = .ok (.getfield 27, 3) := by decide +kernel
theorem dd_X0_add_8 : decode mb_X0_add 8 = .ok (.iload_n 1, 1) := by decide +kernel
theorem dd_X0_add_9 : decode mb_X0_add 9 = .ok (.iastore, 1) := by decide +kernel
theorem dd_X0_add_10 : decode mb_X0_add 10 = .ok (.aload_n 0, 1) := by decide +kernel
theorem dd_X0_add_11 : decode mb_X0_add 11 = .ok (.getfield 15, 3) := by decide +kernel
theorem dd_X0_add_14 : decode mb_X0_add 14 = .ok (.aload_n 0, 1) := by decide +kernel
theorem dd_X0_add_15 : decode mb_X0_add 15 = .ok (.getfield 27, 3) := by decide +kernel
theorem dd_X0_add_18 : decode mb_X0_add 18 = .ok (.iload_n 2, 1) := by decide +kernel
theorem dd_X0_add_19 : decode mb_X0_add 19 = .ok (.iastore, 1) := by decide +kernel
theorem dd_X0_add_20 : decode mb_X0_add 20 = .ok (.aload_n 0, 1) := by decide +kernel
theorem dd_X0_add_21 : decode mb_X0_add 21 = .ok (.getfield 18, 3) := by decide +kernel
theorem dd_X0_add_24 : decode mb_X0_add 24 = .ok (.aload_n 0, 1) := by decide +kernel
theorem dd_X0_add_25 : decode mb_X0_add 25 = .ok (.getfield 27, 3) := by decide +kernel
theorem dd_X0_add_28 : decode mb_X0_add 28 = .ok (.iload_n 3, 1) := by decide +kernel
theorem dd_X0_add_29 : decode mb_X0_add 29 = .ok (.iastore, 1) := by decide +kernel
theorem dd_X0_add_30 : decode mb_X0_add 30 = .ok (.aload_n 0, 1) := by decide +kernel
theorem dd_X0_add_31 : decode mb_X0_add 31 = .ok (.getfield 21, 3) := by decide +kernel
theorem dd_X0_add_34 : decode mb_X0_add 34 = .ok (.aload_n 0, 1) := by decide +kernel
theorem dd_X0_add_35 : decode mb_X0_add 35 = .ok (.getfield 27, 3) := by decide +kernel
theorem dd_X0_add_38 : decode mb_X0_add 38 = .ok (.iload 4, 2) := by decide +kernel
theorem dd_X0_add_40 : decode mb_X0_add 40 = .ok (.iastore, 1) := by decide +kernel
theorem dd_X0_add_41 : decode mb_X0_add 41 = .ok (.aload_n 0, 1) := by decide +kernel
theorem dd_X0_add_42 : decode mb_X0_add 42 = .ok (.getfield 24, 3) := by decide +kernel
theorem dd_X0_add_45 : decode mb_X0_add 45 = .ok (.aload_n 0, 1) := by decide +kernel
theorem dd_X0_add_46 : decode mb_X0_add 46 = .ok (.getfield 27, 3) := by decide +kernel
theorem dd_X0_add_49 : decode mb_X0_add 49 = .ok (.iconst 0, 1) := by decide +kernel
theorem dd_X0_add_50 : decode mb_X0_add 50 = .ok (.iastore, 1) := by decide +kernel
theorem dd_X0_add_51 : decode mb_X0_add 51 = .ok (.aload_n 0, 1) := by decide +kernel
theorem dd_X0_add_52 : decode mb_X0_add 52 = .ok (.dup, 1) := by decide +kernel
theorem dd_X0_add_53 : decode mb_X0_add 53 = .ok (.getfield 27, 3) := by decide +kernel
theorem dd_X0_add_56 : decode mb_X0_add 56 = .ok (.iconst 1, 1) := by decide +kernel
theorem dd_X0_add_57 : decode mb_X0_add 57 = .ok (.iadd, 1) := by decide +kernel
theorem dd_X0_add_58 : decode mb_X0_add 58 = .ok (.putfield 27, 3) := by decide +kernel
theorem dd_X0_add_61 : decode mb_X0_add 61 = .ok (.aload_n 0, 1) := by decide +kernel
theorem dd_X0_add_62 : decode mb_X0_add 62 = .ok (.getfield 27, 3) := by decide +kernel
theorem dd_X0_add_65 : decode mb_X0_add 65 = .ok (.iconst 1, 1) := by decide +kernel
theorem dd_X0_add_66 : decode mb_X0_add 66 = .ok (.isub, 1) := by decide +kernel
theorem dd_X0_add_67 : decode mb_X0_add 67 = .ok (.ireturn, 1) := by decide +kernel
theorem dd_X0_become_0 : decode mb_X0_become 0 = .ok (.aload_n 1, 1) := by decide +kernel
theorem dd_X0_become_1 : decode mb_X0_become 1 = .ok (.getfield 9, 3) := by decide +kernel
theorem dd_X0_become_4 : decode mb_X0_become 4 = .ok (.iconst 0, 1) := by decide +kernel
theorem dd_X0_become_5 : decode mb_X0_become 5 = .ok (.aload_n 0, 1) := by decide +kernel
theorem dd_X0_become_6 : decode mb_X0_become 6 = .ok (.getfield 9, 3) := by decide +kernel
theorem dd_X0_become_9 : decode mb_X0_become 9 = .ok (.iconst 0, 1) := by decide +kernel
theorem dd_X0_become_10 : decode mb_X0_become 10 = .ok (.bipush 12, 2) := by decide +kernel
theorem dd_X0_become_12 : decode mb_X0_become 12 = .ok (.invokestatic 35, 3) := by decide +kernel
theorem dd_X0_become_15 : decode mb_X0_become 15 = .ok (.aload_n 1, 1) := by decide +kernel
theorem dd_X0_become_16 : decode mb_X0_become 16 = .ok (.getfield 15, 3) := by decide +kernel
theorem dd_X0_become_19 : decode mb_X0_become 19 = .ok (.iconst 0, 1) := by decide +kernel
theorem dd_X0_become_20 : decode mb_X0_become 20 = .ok (.aload_n 0, 1) := by decide +kernel
theorem dd_X0_become_21 : decode mb_X0_become 21 = .ok (.getfield 15, 3) := by decide +kernel
theorem dd_X0_become_24 : decode mb_X0_become 24 = .ok (.iconst 0, 1) := by decide +kernel
theorem dd_X0_become_25 : decode mb_X0_become 25 = .ok (.bipush 12, 2) := by decide +kernel
theorem dd_X0_become_27 : decode mb_X0_become 27 = .ok (.invokestatic 35, 3) := by decide +kernel
theorem dd_X0_become_30 : decode mb_X0_become 30 = .ok (.aload_n 1, 1) := by decide +kernel
theorem dd_X0_become_31 : decode mb_X0_become 31 = .ok (.getfield 18, 3) := by decide +kernel
theorem dd_X0_become_34 : decode mb_X0_become 34 = .ok (.iconst 0, 1) := by decide +kernel
theorem dd_X0_become_35 : decode mb_X0_become 35 = .ok (.aload_n 0, 1) := by decide +kernel
theorem dd_X0_become_36 : decode mb_X0_become 36 = .ok (.getfield 18, 3) := by decide +kernel
theorem dd_X0_become_39 : decode mb_X0_become 39 = .ok (.iconst 0, 1) := by decide +kernel
theorem dd_X0_become_40 : decode mb_X0_become 40 = .ok (.bipush 12, 2) := by decide +kernel
theorem dd_X0_become_42 : decode mb_X0_become 42 = .ok (.invokestatic 35, 3) := by decide +kernel
theorem dd_X0_become_45 : decode mb_X0_become 45 = .ok (.aload_n 1, 1) := by decide +kernel
theorem dd_X0_become_46 : decode mb_X0_become 46 = .ok (.getfield 21, 3) := by decide +kernel
theorem dd_X0_become_49 : decode mb_X0_become 49 = .ok (.iconst 0, 1) := by decide +kernel
theorem dd_X0_become_50 : decode mb_X0_become 50 = .ok (.aload_n 0, 1) := by decide +kernel
theorem dd_X0_become_51 : decode mb_X0_become 51 = .ok (.getfield 21, 3) := by decide +kernel
theorem dd_X0_become_54 : decode mb_X0_become 54 = .ok (.iconst 0, 1) := by decide +kernel
theorem dd_X0_become_55 : decode mb_X0_become 55 = .ok (.bipush 12, 2) := by decide +kernel
theorem dd_X0_become_57 : decode mb_X0_become 57 = .ok (.invokestatic 35, 3) := by decide +kernel
theorem dd_X0_become_60 : decode mb_X0_become 60 = .ok (.aload_n 1, 1) := by decide +kernel
theorem dd_X0_become_61 : decode mb_X0_become 61 = .ok (.getfield 24, 3) := by decide +kernel
theorem dd_X0_become_64 : decode mb_X0_become 64 = .ok (.iconst 0, 1) := by decide +kernel
theorem dd_X0_become_65 : decode mb_X0_become 65 = .ok (.aload_n 0, 1) := by decide +kernel
theorem dd_X0_become_66 : decode mb_X0_become 66 = .ok (.getfield 24, 3) := by decide +kernel
theorem dd_X0_become_69 : decode mb_X0_become 69 = .ok (.iconst 0, 1) := by decide +kernel
theorem dd_X0_become_70 : decode mb_X0_become 70 = .ok (.bipush 12, 2) := by decide +kernel
theorem dd_X0_become_72 : decode mb_X0_become 72 = .ok (.invokestatic 35, 3) := by decide +kernel
theorem dd_X0_become_75 : decode mb_X0_become 75 = .ok (.aload_n 0, 1) := by decide +kernel
theorem dd_X0_become_76 : decode mb_X0_become 76 = .ok (.aload_n 1, 1) := by decide +kernel
theorem dd_X0_become_77 : decode mb_X0_become 77 = .ok (.getfield 27, 3) := by decide +kernel
theorem dd_X0_become_80 : decode mb_X0_become 80 = .ok (.putfield 27, 3) := by decide +kernel
theorem dd_X0_become_83 : decode mb_X0_become 83 = .ok (.return_, 1) := by decide +kernel
theorem dd_X0_has_0 : decode mb_X0_has 0 = .ok (.iload_n 1, 1) := by decide +kernel
theorem dd_X0_has_1 : decode mb_X0_has 1 = .ok (.iconst 0, 1) := by decide +kernel
theorem dd_X0_has_2 : decode mb_X0_has 2 = .ok (.aload_n 0, 1) := by decide +kernel
theorem dd_X0_has_3 : decode mb_X0_has 3 = .ok (.getfield 27, 3) := by decide +kernel
theorem dd_X0_has_6 : decode mb_X0_has 6 = .ok (.iconst 1, 1) := by decide +kernel
theorem dd_X0_has_7 : decode mb_X0_has 7 = .ok (.isub, 1) := by decide +kernel
theorem dd_X0_has_8 : decode mb_X0_has 8 = .ok (.invokestatic 31, 3) := by decide +kernel
theorem dd_X0_has_11 : decode mb_X0_has 11 = .ok (.ireturn, 1) := by decide +kernel
theorem dd_X10_add_0 : decode mb_X10_add 0 = .ok (.aload_n 0, 1) := by decide +kernel
theorem dd_X10_add_1 : decode mb_X10_add 1 = .ok (.getfield 9, 3) := by decide +kernel
theorem dd_X10_add_4 : decode mb_X10_add 4 = .ok (.aload_n 0, 1) := by decide +kernel
theorem dd_X10_add_5 : decode mb_X10_add 5 = .ok (.getfield 30, 3) := by decide +kernel
theorem dd_X10_add_8 : decode mb_X10_add 8 = .ok (.iload_n 1, 1) := by decide +kernel
theorem dd_X10_add_9 : decode mb_X10_add 9 = .ok (.iastore, 1) := by decide +kernel
theorem dd_X10_add_10 : decode mb_X10_add 10 = .ok (.aload_n 0, 1) := by decide +kernel
theorem dd_X10_add_11 : decode mb_X10_add 11 = .ok (.getfield 15, 3) := by decide +kernel
theorem dd_X10_add_14 : decode mb_X10_add 14 = .ok (.aload_n 0, 1) := by decide +kernel
theorem dd_X10_add_15 : decode mb_X10_add 15 = .ok (.getfield 30, 3) := by decide +kernel
theorem dd_X10_add_18 : decode mb_X10_add 18 = .ok (.iload_n 2, 1) := by decide +kernel
theorem dd_X10_add_19 : decode mb_X10_add 19 = .ok (.iastore, 1) := by decide +kernel
theorem dd_X10_add_20 : decode mb_X10_add 20 = .ok (.aload_n 0, 1) := by decide +kernel
theorem dd_X10_add_21 : decode mb_X10_add 21 = .ok (.getfield 18, 3) := by decide +kernel
theorem dd_X10_add_24 : decode mb_X10_add 24 = .ok (.aload_n 0, 1) := by decide +kernel
theorem dd_X10_add_25 : decode mb_X10_add 25 = .ok (.getfield 30, 3) := by decide +kernel
theorem dd_X10_add_28 : decode mb_X10_add 28 = .ok (.iload_n 3, 1) := by decide +kernel
theorem dd_X10_add_29 : decode mb_X10_add 29 = .ok (.iastore, 1) := by decide +kernel
theorem dd_X10_add_30 : decode mb_X10_add 30 = .ok (.aload_n 0, 1) := by decide +kernel
theorem dd_X10_add_31 : decode mb_X10_add 31 = .ok (.getfield 21, 3) := by decide +kernel
theorem dd_X10_add_34 : decode mb_X10_add 34 = .ok (.aload_n 0, 1) := by decide +kernel
theorem dd_X10_add_35 : decode mb_X10_add 35 = .ok (.getfield 30, 3) := by decide +kernel
theorem dd_X10_add_38 : decode mb_X10_add 38 = .ok (.iconst (-1), 1) := by decide +kernel
theorem dd_X10_add_39 : decode mb_X10_add 39 = .ok (.iastore, 1) := by decide +kernel
theorem dd_X10_add_40 : decode mb_X10_add 40 = .ok (.aload_n 0, 1) := by decide +kernel
theorem dd_X10_add_41 : decode mb_X10_add 41 = .ok (.getfield 24, 3) := by decide +kernel
theorem dd_X10_add_44 : decode mb_X10_add 44 = .ok (.aload_n 0, 1) := by decide +kernel
theorem dd_X10_add_45 : decode mb_X10_add 45 = .ok (.getfield 30, 3) := by decide +kernel
theorem dd_X10_add_48 : decode mb_X10_add 48 = .ok (.iconst (-1), 1) := by decide +kernel
theorem dd_X10_add_49 : decode mb_X10_add 49 = .ok (.iastore, 1) := by decide +kernel
theorem dd_X10_add_50 : decode mb_X10_add 50 = .ok (.aload_n 0, 1) := by decide +kernel
theorem dd_X10_add_51 : decode mb_X10_add 51 = .ok (.getfield 27, 3) := by decide +kernel
theorem dd_X10_add_54 : decode mb_X10_add 54 = .ok (.aload_n 0, 1) := by decide +kernel
theorem dd_X10_add_55 : decode mb_X10_add 55 = .ok (.getfield 30, 3) := by decide +kernel
theorem dd_X10_add_58 : decode mb_X10_add 58 = .ok (.iconst (-1), 1) := by decide +kernel
theorem dd_X10_add_59 : decode mb_X10_add 59 = .ok (.iastore, 1) := by decide +kernel
theorem dd_X10_add_60 : decode mb_X10_add 60 = .ok (.aload_n 0, 1) := by decide +kernel
theorem dd_X10_add_61 : decode mb_X10_add 61 = .ok (.dup, 1) := by decide +kernel
theorem dd_X10_add_62 : decode mb_X10_add 62 = .ok (.getfield 30, 3) := by decide +kernel
theorem dd_X10_add_65 : decode mb_X10_add 65 = .ok (.iconst 1, 1) := by decide +kernel
theorem dd_X10_add_66 : decode mb_X10_add 66 = .ok (.iadd, 1) := by decide +kernel
theorem dd_X10_add_67 : decode mb_X10_add 67 = .ok (.putfield 30, 3) := by decide +kernel
theorem dd_X10_add_70 : decode mb_X10_add 70 = .ok (.aload_n 0, 1) := by decide +kernel
theorem dd_X10_add_71 : decode mb_X10_add 71 = .ok (.getfield 30, 3) := by decide +kernel
theorem dd_X10_add_74 : decode mb_X10_add 74 = .ok (.iconst 1, 1) := by decide +kernel
theorem dd_X10_add_75 : decode mb_X10_add 75 = .ok (.isub, 1) := by decide +kernel
theorem dd_X10_add_76 : decode mb_X10_add 76 = .ok (.ireturn, 1) := by decide +kernel
theorem dd_X10_become_0 : decode mb_X10_become 0 = .ok (.aload_n 1, 1) := by decide +kernel
theorem dd_X10_become_1 : decode mb_X10_become 1 = .ok (.getfield 9, 3) := by decide +kernel
theorem dd_X10_become_4 : decode mb_X10_become 4 = .ok (.iconst 0, 1) := by decide +kernel
theorem dd_X10_become_5 : decode mb_X10_become 5 = .ok (.aload_n 0, 1) := by decide +kernel
theorem dd_X10_become_6 : decode mb_X10_become 6 = .ok (.getfield 9, 3) := by decide +kernel
theorem dd_X10_become_9 : decode mb_X10_become 9 = .ok (.iconst 0, 1) := by decide +kernel
theorem dd_X10_become_10 : decode mb_X10_become 10 = .ok (.bipush 30, 2) := by decide +kernel
theorem dd_X10_become_12 : decode mb_X10_become 12 = .ok (.invokestatic 98, 3) := by decide +kernel
theorem dd_X10_become_15 : decode mb_X10_become 15 = .ok (.aload_n 1, 1) := by decide +kernel
theorem dd_X10_become_16 : decode mb_X10_become 16 = .ok (.getfield 15, 3) := by decide +kernel
theorem dd_X10_become_19 : decode mb_X10_become 19 = .ok (.iconst 0, 1) := by decide +kernel
theorem dd_X10_become_20 : decode mb_X10_become 20 = .ok (.aload_n 0, 1) := by decide +kernel
theorem dd_X10_become_21 : decode mb_X10_become 21 = .ok (.getfield 15, 3) := by decide +kernel
theorem dd_X10_become_24 : decode mb_X10_become 24 = .ok (.iconst 0, 1) := by decide +kernel
theorem dd_X10_become_25 : decode mb_X10_become 25 = .ok (.bipush 30, 2) := by decide +kernel
theorem dd_X10_become_27 : decode mb_X10_become 27 = .ok (.invokestatic 98, 3) := by decide +kernel
theorem dd_X10_become_30 : decode mb_X10_become 30 = .ok (.aload_n 1, 1) := by decide +kernel
theorem dd_X10_become_31 : decode mb_X10_become 31 = .ok (.getfield 18, 3) := by decide +kernel
theorem dd_X10_become_34 : decode mb_X10_become 34 = .ok (.iconst 0, 1) := by decide +kernel
theorem dd_X10_become_35 : decode mb_X10_become 35 = .ok (.aload_n 0, 1) := by decide +kernel
theorem dd_X10_become_36 : decode mb_X10_become 36 = .ok (.getfield 18, 3) := by decide +kernel
theorem dd_X10_become_39 : decode mb_X10_become 39 = .ok (.iconst 0, 1) := by decide +kernel
theorem dd_X10_become_40 : decode mb_X10_become 40 = .ok (.bipush 30, 2) := by decide +kernel
theorem dd_X10_become_42 : decode mb_X10_become 42 = .ok (.invokestatic 98, 3) := by decide +kernel
theorem dd_X10_become_45 : decode mb_X10_become 45 = .ok (.aload_n 1, 1) := by decide +kernel
theorem dd_X10_become_46 : decode mb_X10_become 46 = .ok (.getfield 21, 3) := by decide +kernel
theorem dd_X10_become_49 : decode mb_X10_become 49 = .ok (.iconst 0, 1) := by decide +kernel
theorem dd_X10_become_50 : decode mb_X10_become 50 = .ok (.aload_n 0, 1) := by decide +kernel
theorem dd_X10_become_51 : decode mb_X10_become 51 = .ok (.getfield 21, 3) := by decide +kernel
theorem dd_X10_become_54 : decode mb_X10_become 54 = .ok (.iconst 0, 1) := by decide +kernel
theorem dd_X10_become_55 : decode mb_X10_become 55 = .ok (.bipush 30, 2) := by decide +kernel
theorem dd_X10_become_57 : decode mb_X10_become 57 = .ok (.invokestatic 98, 3) := by decide +kernel
theorem dd_X10_become_60 : decode mb_X10_become 60 = .ok (.aload_n 1, 1) := by decide +kernel
theorem dd_X10_become_61 : decode mb_X10_become 61 = .ok (.getfield 24, 3) := by decide +kernel
theorem dd_X10_become_64 : decode mb_X10_become 64 = .ok (.iconst 0, 1) := by decide +kernel
theorem dd_X10_become_65 : decode mb_X10_become 65 = .ok (.aload_n 0, 1) := by decide +kernel
theorem dd_X10_become_66 : decode mb_X10_become 66 = .ok (.getfield 24, 3) := by decide +kernel
theorem dd_X10_become_69 : decode mb_X10_become 69 = .ok (.iconst 0, 1) := by decide +kernel
theorem dd_X10_become_70 : decode mb_X10_become 70 = .ok (.bipush 30, 2) := by decide +kernel
theorem dd_X10_become_72 : decode mb_X10_become 72 = .ok (.invokestatic 98, 3) := by decide +kernel
theorem dd_X10_become_75 : decode mb_X10_become 75 = .ok (.aload_n 1, 1) := by decide +kernel
theorem dd_X10_become_76 : decode mb_X10_become 76 = .ok (.getfield 27, 3) := by decide +kernel
theorem dd_X10_become_79 : decode mb_X10_become 79 = .ok (.iconst 0, 1) := by decide +kernel
theorem dd_X10_become_80 : decode mb_X10_become 80 = .ok (.aload_n 0, 1) := by decide +kernel
theorem dd_X10_become_81 : decode mb_X10_become 81 = .ok (.getfield 27, 3) := by decide +kernel
theorem dd_X10_become_84 : decode mb_X10_become 84 = .ok (.iconst 0, 1) := by decide +kernel
theorem dd_X10_become_85 : decode mb_X10_become 85 = .ok (.bipush 30, 2) := by decide +kernel
theorem dd_X10_become_87 : decode mb_X10_become 87 = .ok (.invokestatic 98, 3) := by decide +kernel
theorem dd_X10_become_90 : decode mb_X10_become 90 = .ok (.aload_n 0, 1) := by decide +kernel
theorem dd_X10_become_91 : decode mb_X10_become 91 = .ok (.aload_n 1, 1) := by decide +kernel
theorem dd_X10_become_92 : decode mb_X10_become 92 = .ok (.getfield 30, 3) := by decide +kernel
theorem dd_X10_become_95 : decode mb_X10_become 95 = .ok (.putfield 30, 3) := by decide +kernel
theorem dd_X10_become_98 : decode mb_X10_become 98 = .ok (.return_, 1) := by decide +kernel
theorem dd_X10_countLeft_0 : decode mb_X10_countLeft 0 = .ok (.iconst 0, 1) := by decide +kernel
theorem dd_X10_countLeft_1 : decode mb_X10_countLeft 1 = .ok (.istore_n 1, 1) := by decide +kernel
theorem dd_X10_countLeft_2 : decode mb_X10_countLeft 2 = .ok (.iconst 0, 1) := by decide +kernel
theorem dd_X10_countLeft_3 : decode mb_X10_countLeft 3 = .ok (.istore_n 2, 1) := by decide +kernel
theorem dd_X10_countLeft_4 : decode mb_X10_countLeft 4 = .ok (.iload_n 2, 1) := by decide +kernel
theorem dd_X10_countLeft_5 : decode mb_X10_countLeft 5 = .ok (.aload_n 0, 1) := by decide +kernel
theorem dd_X10_countLeft_6 : decode mb_X10_countLeft 6 = .ok (.getfield 30, 3) := by decide +kernel
theorem dd_X10_countLeft_9 : decode mb_X10_countLeft 9 = .ok (.if_icmp .ge 20, 3) := by decide +kernel
theorem dd_X10_countLeft_29 : decode mb_X10_countLeft 29 = .ok (.iload_n 1, 1) := by decide +kernel
theorem dd_X10_countLeft_30 : decode mb_X10_countLeft 30 = .ok (.ireturn, 1) := by decide +kernel
theorem dd_X10_has_0 : decode mb_X10_has 0 = .ok (.iload_n 1, 1) := by decide +kernel
theorem dd_X10_has_1 : decode mb_X10_has 1 = .ok (.iconst 0, 1) := by decide +kernel
theorem dd_X10_has_2 : decode mb_X10_has 2 = .ok (.aload_n 0, 1) := by decide +kernel
theorem dd_X10_has_3 : decode mb_X10_has 3 = .ok (.getfield 30, 3) := by decide +kernel
theorem dd_X10_has_6 : decode mb_X10_has 6 = .ok (.iconst 1, 1) := by decide +kernel
theorem dd_X10_has_7 : decode mb_X10_has 7 = .ok (.isub, 1) := by decide +kernel
theorem dd_X10_has_8 : decode mb_X10_has 8 = .ok (.invokestatic 37, 3) := by decide +kernel
theorem dd_X10_has_11 : decode mb_X10_has 11 = .ok (.ireturn, 1) := by decide +kernel
theorem dd_X10_worthLeft_0 : decode mb_X10_worthLeft 0 = .ok (.iconst 0, 1) := by decide +kernel
theorem dd_X10_worthLeft_1 : decode mb_X10_worthLeft 1 = .ok (.istore_n 2, 1) := by decide +kernel
theorem dd_X10_worthLeft_2 : decode mb_X10_worthLeft 2 = .ok (.iconst 0, 1) := by decide +kernel
theorem dd_X10_worthLeft_3 : decode mb_X10_worthLeft 3 = .ok (.istore_n 3, 1) := by decide +kernel
theorem dd_X10_worthLeft_4 : decode mb_X10_worthLeft 4 = .ok (.iload_n 3, 1) := by decide +kernel
theorem dd_X10_worthLeft_5 : decode mb_X10_worthLeft 5 = .ok (.aload_n 0, 1) := by decide +kernel
theorem dd_X10_worthLeft_6 : decode mb_X10_worthLeft 6 = .ok (.getfield 30, 3) := by decide +kernel
theorem dd_X10_worthLeft_9 : decode mb_X10_worthLeft 9 = .ok (.if_icmp .ge 34, 3) := by decide +kernel
theorem dd_X10_worthLeft_43 : decode mb_X10_worthLeft 43 = .ok (.iload_n 2, 1) := by decide +kernel
theorem dd_X10_worthLeft_44 : decode mb_X10_worthLeft 44 = .ok (.ireturn, 1) := by decide +kernel
theorem dd_X11_back_0 : decode mb_X11_back 0 = .ok (.aload_n 0, 1) := by decide +kernel
theorem dd_X11_back_1 : decode mb_X11_back 1 = .ok (.getfield 50, 3) := by decide +kernel
theorem dd_X11_back_4 : decode mb_X11_back 4 = .ok (.ifCond .ne 10, 3) := by decide +kernel
theorem dd_X11_back_7 : decode mb_X11_back 7 = .ok (.aload_n 0, 1) := by decide +kernel
theorem dd_X11_back_8 : decode mb_X11_back 8 = .ok (.bipush (-5), 2) := by decide +kernel
theorem dd_X11_back_10 : decode mb_X11_back 10 = .ok (.invokevirtual 63, 3) := by decide +kernel
theorem dd_X11_back_13 : decode mb_X11_back 13 = .ok (.ireturn, 1) := by decide +kernel
theorem dd_X11_best_0 : decode mb_X11_best 0 = .ok (.aload_n 0, 1) := by decide +kernel
theorem dd_X11_best_1 : decode mb_X11_best 1 = .ok (.getfield 39, 3) := by decide +kernel
theorem dd_X11_best_4 : decode mb_X11_best 4 = .ok (.aload_n 0, 1) := by decide +kernel
theorem dd_X11_best_5 : decode mb_X11_best 5 = .ok (.getfield 29, 3) := by decide +kernel
theorem dd_X11_best_8 : decode mb_X11_best 8 = .ok (.invokevirtual 268, 3) := by decide +kernel
theorem dd_X11_best_11 : decode mb_X11_best 11 = .ok (.ireturn, 1) := by decide +kernel
theorem dd_X11_buyer_0 : decode mb_X11_buyer 0 = .ok (.iload_n 1, 1) := by decide +kernel
theorem dd_X11_buyer_1 : decode mb_X11_buyer 1 = .ok (.invokestatic 216, 3) := by decide +kernel
theorem dd_X11_buyer_4 : decode mb_X11_buyer 4 = .ok (.ifCond .eq 33, 3) := by decide +kernel
theorem dd_X11_buyer_7 : decode mb_X11_buyer 7 = .ok (.iload_n 2, 1) := by decide +kernel
theorem dd_X11_buyer_8 : decode mb_X11_buyer 8 = .ok (.iconst 0, 1) := by decide +kernel
theorem dd_X11_buyer_9 : decode mb_X11_buyer 9 = .ok (.sipush 9999, 3) := by decide +kernel
theorem dd_X11_buyer_12 : decode mb_X11_buyer 12 = .ok (.invokestatic 59, 3) := by decide +kernel
theorem dd_X11_buyer_15 : decode mb_X11_buyer 15 = .ok (.ifCond .eq 22, 3) := by decide +kernel
theorem dd_X11_buyer_18 : decode mb_X11_buyer 18 = .ok (.iload_n 3, 1) := by decide +kernel
theorem dd_X11_buyer_19 : decode mb_X11_buyer 19 = .ok (.invokestatic 165, 3) := by decide +kernel
theorem dd_X11_buyer_22 : decode mb_X11_buyer 22 = .ok (.ifCond .eq 15, 3) := by decide +kernel
theorem dd_X11_buyer_25 : decode mb_X11_buyer 25 = .ok (.iload 4, 2) := by decide +kernel
theorem dd_X11_buyer_27 : decode mb_X11_buyer 27 = .ok (.iconst 0, 1) := by decide +kernel
theorem dd_X11_buyer_28 : decode mb_X11_buyer 28 = .ok (.sipush 300, 3) := by decide +kernel
theorem dd_X11_buyer_31 : decode mb_X11_buyer 31 = .ok (.invokestatic 59, 3) := by decide +kernel
theorem dd_X11_buyer_34 : decode mb_X11_buyer 34 = .ok (.ifCond .ne 10, 3) := by decide +kernel
theorem dd_X11_buyer_37 : decode mb_X11_buyer 37 = .ok (.aload_n 0, 1) := by decide +kernel
theorem dd_X11_buyer_38 : decode mb_X11_buyer 38 = .ok (.bipush (-2), 2) := by decide +kernel
theorem dd_X11_buyer_40 : decode mb_X11_buyer 40 = .ok (.invokevirtual 63, 3) := by decide +kernel
theorem dd_X11_buyer_43 : decode mb_X11_buyer 43 = .ok (.ireturn, 1) := by decide +kernel
theorem dd_X11_buyer_44 : decode mb_X11_buyer 44 = .ok (.aload_n 0, 1) := by decide +kernel
theorem dd_X11_buyer_45 : decode mb_X11_buyer 45 = .ok (.getfield 29, 3) := by decide +kernel
theorem dd_X11_buyer_48 : decode mb_X11_buyer 48 = .ok (.getfield 219, 3) := by decide +kernel
theorem dd_X11_buyer_51 : decode mb_X11_buyer 51 = .ok (.getfield 223, 3) := by decide +kernel
theorem dd_X11_buyer_54 : decode mb_X11_buyer 54 = .ok (.bipush 12, 2) := by decide +kernel
theorem dd_X11_buyer_56 : decode mb_X11_buyer 56 = .ok (.if_icmp .lt 10, 3) := by decide +kernel
theorem dd_X11_buyer_66 : decode mb_X11_buyer 66 = .ok (.aload_n 0, 1) := by decide +kernel
theorem dd_X11_buyer_67 : decode mb_X11_buyer 67 = .ok (.getfield 29, 3) := by decide +kernel
theorem dd_X11_buyer_70 : decode mb_X11_buyer 70 = .ok (.getfield 219, 3) := by decide +kernel
theorem dd_X11_buyer_73 : decode mb_X11_buyer 73 = .ok (.iload_n 1, 1) := by decide +kernel
theorem dd_X11_buyer_74 : decode mb_X11_buyer 74 = .ok (.iload_n 2, 1) := by decide +kernel
theorem dd_X11_buyer_75 : decode mb_X11_buyer 75 = .ok (.iload_n 3, 1) := by decide +kernel
theorem dd_X11_buyer_76 : decode mb_X11_buyer 76 = .ok (.iload 4, 2) := by decide +kernel
theorem dd_X11_buyer_78 : decode mb_X11_buyer 78 = .ok (.invokevirtual 226, 3) := by decide +kernel
theorem dd_X11_buyer_81 : decode mb_X11_buyer 81 = .ok (.ireturn, 1) := by decide +kernel
theorem dd_X11_buyerOf_0 : decode mb_X11_buyerOf 0 = .ok (.aload_n 0, 1) := by decide +kernel
theorem dd_X11_buyerOf_1 : decode mb_X11_buyerOf 1 = .ok (.getfield 29, 3) := by decide +kernel
theorem dd_X11_buyerOf_4 : decode mb_X11_buyerOf 4 = .ok (.getfield 219, 3) := by decide +kernel
theorem dd_X11_buyerOf_7 : decode mb_X11_buyerOf 7 = .ok (.iload_n 1, 1) := by decide +kernel
theorem dd_X11_buyerOf_8 : decode mb_X11_buyerOf 8 = .ok (.invokevirtual 229, 3) := by decide +kernel
theorem dd_X11_buyerOf_11 : decode mb_X11_buyerOf 11 = .ok (.ifCond .ne 10, 3) := by decide +kernel
theorem dd_X11_buyerOf_14 : decode mb_X11_buyerOf 14 = .ok (.aload_n 0, 1) := by decide +kernel
theorem dd_X11_buyerOf_15 : decode mb_X11_buyerOf 15 = .ok (.bipush (-2), 2) := by decide +kernel
theorem dd_X11_buyerOf_17 : decode mb_X11_buyerOf 17 = .ok (.invokevirtual 63, 3) := by decide +kernel
theorem dd_X11_buyerOf_20 : decode mb_X11_buyerOf 20 = .ok (.ireturn, 1) := by decide +kernel
theorem dd_X11_chip_0 : decode mb_X11_chip 0 = .ok (.aload_n 0, 1) := by decide +kernel
theorem dd_X11_chip_1 : decode mb_X11_chip 1 = .ok (.getfield 29, 3) := by decide +kernel
theorem dd_X11_chip_4 : decode mb_X11_chip 4 = .ok (.getfield 113, 3) := by decide +kernel
theorem dd_X11_chip_7 : decode mb_X11_chip 7 = .ok (.iload_n 1, 1) := by decide +kernel
theorem dd_X11_chip_8 : decode mb_X11_chip 8 = .ok (.invokevirtual 117, 3) := by decide +kernel
theorem dd_X11_chip_11 : decode mb_X11_chip 11 = .ok (.ifCond .eq 13, 3) := by decide +kernel
theorem dd_X11_chip_24 : decode mb_X11_chip 24 = .ok (.aload_n 0, 1) := by decide +kernel
theorem dd_X11_chip_25 : decode mb_X11_chip 25 = .ok (.bipush (-2), 2) := by decide +kernel
theorem dd_X11_chip_27 : decode mb_X11_chip 27 = .ok (.invokevirtual 63, 3) := by decide +kernel
theorem dd_X11_chip_30 : decode mb_X11_chip 30 = .ok (.ireturn, 1) := by decide +kernel
theorem dd_X11_copy_0 : decode mb_X11_copy 0 = .ok (.iload_n 1, 1) := by decide +kernel
theorem dd_X11_copy_1 : decode mb_X11_copy 1 = .ok (.invokestatic 55, 3) := by decide +kernel
theorem dd_X11_copy_4 : decode mb_X11_copy 4 = .ok (.ifCond .eq 10, 3) := by decide +kernel
theorem dd_X11_copy_7 : decode mb_X11_copy 7 = .ok (.iload_n 2, 1) := by decide +kernel
theorem dd_X11_copy_8 : decode mb_X11_copy 8 = .ok (.invokestatic 55, 3) := by decide +kernel
theorem dd_X11_copy_11 : decode mb_X11_copy 11 = .ok (.ifCond .ne 10, 3) := by decide +kernel
theorem dd_X11_copy_14 : decode mb_X11_copy 14 = .ok (.aload_n 0, 1) := by decide +kernel
theorem dd_X11_copy_15 : decode mb_X11_copy 15 = .ok (.bipush (-2), 2) := by decide +kernel
theorem dd_X11_copy_17 : decode mb_X11_copy 17 = .ok (.invokevirtual 63, 3) := by decide +kernel
theorem dd_X11_copy_20 : decode mb_X11_copy 20 = .ok (.ireturn, 1) := by decide +kernel
theorem dd_X11_copy_21 : decode mb_X11_copy 21 = .ok (.aload_n 0, 1) := by decide +kernel
theorem dd_X11_copy_22 : decode mb_X11_copy 22 = .ok (.getfield 11, 3) := by decide +kernel
theorem dd_X11_copy_25 : decode mb_X11_copy 25 = .ok (.iload_n 1, 1) := by decide +kernel
theorem dd_X11_copy_26 : decode mb_X11_copy 26 = .ok (.aaload, 1) := by decide +kernel
theorem dd_X11_copy_27 : decode mb_X11_copy 27 = .ok (.astore 6, 2) := by decide +kernel
theorem dd_X11_copy_29 : decode mb_X11_copy 29 = .ok (.aload_n 0, 1) := by decide +kernel
theorem dd_X11_copy_30 : decode mb_X11_copy 30 = .ok (.getfield 11, 3) := by decide +kernel
theorem dd_X11_copy_33 : decode mb_X11_copy 33 = .ok (.iload_n 2, 1) := by decide +kernel
theorem dd_X11_copy_34 : decode mb_X11_copy 34 = .ok (.aaload, 1) := by decide +kernel
theorem dd_X11_copy_35 : decode mb_X11_copy 35 = .ok (.astore 7, 2) := by decide +kernel
theorem dd_X11_copy_37 : decode mb_X11_copy 37 = .ok (.aload 6, 2) := by decide +kernel
theorem dd_X11_copy_39 : decode mb_X11_copy 39 = .ok (.invokevirtual 82, 3) := by decide +kernel
theorem dd_X11_copy_42 : decode mb_X11_copy 42 = .ok (.ifCond .ne 11, 3) := by decide +kernel
theorem dd_X11_copy_45 : decode mb_X11_copy 45 = .ok (.aload 7, 2) := by decide +kernel
theorem dd_X11_copy_47 : decode mb_X11_copy 47 = .ok (.invokevirtual 82, 3) := by decide +kernel
theorem dd_X11_copy_50 : decode mb_X11_copy 50 = .ok (.ifCond .eq 10, 3) := by decide +kernel
theorem dd_X11_copy_60 : decode mb_X11_copy 60 = .ok (.aload 6, 2) := by decide +kernel
theorem dd_X11_copy_62 : decode mb_X11_copy 62 = .ok (.invokevirtual 86, 3) := by decide +kernel
theorem dd_X11_copy_65 : decode mb_X11_copy 65 = .ok (.ifCond .eq 31, 3) := by decide +kernel
theorem dd_X11_copy_96 : decode mb_X11_copy 96 = .ok (.aload 6, 2) := by decide +kernel
theorem dd_X11_copy_98 : decode mb_X11_copy 98 = .ok (.invokevirtual 92, 3) := by decide +kernel
theorem dd_X11_copy_101 : decode mb_X11_copy 101 = .ok (.ifCond .ne 11, 3) := by decide +kernel
theorem dd_X11_copy_112 : decode mb_X11_copy 112 = .ok (.aload_n 0, 1) := by decide +kernel
theorem dd_X11_copy_113 : decode mb_X11_copy 113 = .ok (.bipush (-4), 2) := by decide +kernel
theorem dd_X11_copy_115 : decode mb_X11_copy 115 = .ok (.invokevirtual 63, 3) := by decide +kernel
theorem dd_X11_copy_118 : decode mb_X11_copy 118 = .ok (.ireturn, 1) := by decide +kernel
theorem dd_X11_costs_0 : decode mb_X11_costs 0 = .ok (.aload_n 0, 1) := by decide +kernel
theorem dd_X11_costs_1 : decode mb_X11_costs 1 = .ok (.getfield 29, 3) := by decide +kernel
theorem dd_X11_costs_4 : decode mb_X11_costs 4 = .ok (.getfield 113, 3) := by decide +kernel
theorem dd_X11_costs_7 : decode mb_X11_costs 7 = .ok (.iload_n 1, 1) := by decide +kernel
theorem dd_X11_costs_8 : decode mb_X11_costs 8 = .ok (.invokevirtual 117, 3) := by decide +kernel
theorem dd_X11_costs_11 : decode mb_X11_costs 11 = .ok (.ifCond .eq 10, 3) := by decide +kernel
theorem dd_X11_costs_21 : decode mb_X11_costs 21 = .ok (.aload_n 0, 1) := by decide +kernel
theorem dd_X11_costs_22 : decode mb_X11_costs 22 = .ok (.bipush (-2), 2) := by decide +kernel
theorem dd_X11_costs_24 : decode mb_X11_costs 24 = .ok (.invokevirtual 63, 3) := by decide +kernel
theorem dd_X11_costs_27 : decode mb_X11_costs 27 = .ok (.ireturn, 1) := by decide +kernel
theorem dd_X11_day_0 : decode mb_X11_day 0 = .ok (.iload_n 1, 1) := by decide +kernel
theorem dd_X11_day_1 : decode mb_X11_day 1 = .ok (.tableswitch 80 0 3 #[31, 39, 47, 69], 31) := by decide +kernel
theorem dd_X11_day_32 : decode mb_X11_day 32 = .ok (.aload_n 0, 1) := by decide +kernel
theorem dd_X11_day_33 : decode mb_X11_day 33 = .ok (.getfield 29, 3) := by decide +kernel
theorem dd_X11_day_36 : decode mb_X11_day 36 = .ok (.getfield 282, 3) := by decide +kernel
theorem dd_X11_day_39 : decode mb_X11_day 39 = .ok (.ireturn, 1) := by decide +kernel
theorem dd_X11_day_40 : decode mb_X11_day 40 = .ok (.aload_n 0, 1) := by decide +kernel
theorem dd_X11_day_41 : decode mb_X11_day 41 = .ok (.getfield 29, 3) := by decide +kernel
theorem dd_X11_day_44 : decode mb_X11_day 44 = .ok (.getfield 293, 3) := by decide +kernel
theorem dd_X11_day_47 : decode mb_X11_day 47 = .ok (.ireturn, 1) := by decide +kernel
theorem dd_X11_day_48 : decode mb_X11_day 48 = .ok (.aload_n 0, 1) := by decide +kernel
theorem dd_X11_day_49 : decode mb_X11_day 49 = .ok (.getfield 29, 3) := by decide +kernel
theorem dd_X11_day_52 : decode mb_X11_day 52 = .ok (.getfield 113, 3) := by decide +kernel
theorem dd_X11_day_55 : decode mb_X11_day 55 = .ok (.getfield 132, 3) := by decide +kernel
theorem dd_X11_day_58 : decode mb_X11_day 58 = .ok (.aload_n 0, 1) := by decide +kernel
theorem dd_X11_day_59 : decode mb_X11_day 59 = .ok (.getfield 29, 3) := by decide +kernel
theorem dd_X11_day_62 : decode mb_X11_day 62 = .ok (.getfield 113, 3) := by decide +kernel
theorem dd_X11_day_65 : decode mb_X11_day 65 = .ok (.invokevirtual 296, 3) := by decide +kernel
theorem dd_X11_day_68 : decode mb_X11_day 68 = .ok (.isub, 1) := by decide +kernel
theorem dd_X11_day_69 : decode mb_X11_day 69 = .ok (.ireturn, 1) := by decide +kernel
theorem dd_X11_day_70 : decode mb_X11_day 70 = .ok (.aload_n 0, 1) := by decide +kernel
theorem dd_X11_day_71 : decode mb_X11_day 71 = .ok (.getfield 29, 3) := by decide +kernel
theorem dd_X11_day_74 : decode mb_X11_day 74 = .ok (.getfield 113, 3) := by decide +kernel
theorem dd_X11_day_77 : decode mb_X11_day 77 = .ok (.invokevirtual 296, 3) := by decide +kernel
theorem dd_X11_day_80 : decode mb_X11_day 80 = .ok (.ireturn, 1) := by decide +kernel
theorem dd_X11_day_81 : decode mb_X11_day 81 = .ok (.aload_n 0, 1) := by decide +kernel
theorem dd_X11_day_82 : decode mb_X11_day 82 = .ok (.bipush (-2), 2) := by decide +kernel
theorem dd_X11_day_84 : decode mb_X11_day 84 = .ok (.invokevirtual 63, 3) := by decide +kernel
theorem dd_X11_day_87 : decode mb_X11_day 87 = .ok (.ireturn, 1) := by decide +kernel
theorem dd_X11_element_0 : decode mb_X11_element 0 = .ok (.iload_n 1, 1) := by decide +kernel
theorem dd_X11_element_1 : decode mb_X11_element 1 = .ok (.invokestatic 55, 3) := by decide +kernel
theorem dd_X11_element_4 : decode mb_X11_element 4 = .ok (.ifCond .eq 16, 3) := by decide +kernel
theorem dd_X11_element_7 : decode mb_X11_element 7 = .ok (.aload_n 0, 1) := by decide +kernel
theorem dd_X11_element_8 : decode mb_X11_element 8 = .ok (.getfield 11, 3) := by decide +kernel
theorem dd_X11_element_11 : decode mb_X11_element 11 = .ok (.iload_n 1, 1) := by decide +kernel
theorem dd_X11_element_12 : decode mb_X11_element 12 = .ok (.aaload, 1) := by decide +kernel
theorem dd_X11_element_13 : decode mb_X11_element 13 = .ok (.iload_n 2, 1) := by decide +kernel
theorem dd_X11_element_14 : decode mb_X11_element 14 = .ok (.invokevirtual 109, 3) := by decide +kernel
theorem dd_X11_element_17 : decode mb_X11_element 17 = .ok (.goto 4, 3) := by decide +kernel
theorem dd_X11_element_20 : decode mb_X11_element 20 = .ok (.lconst 0, 1) := by decide +kernel
theorem dd_X11_element_21 : decode mb_X11_element 21 = .ok (.lreturn, 1) := by decide +kernel
theorem dd_X11_feed_0 : decode mb_X11_feed 0 = .ok (.iload_n 2, 1) := by decide +kernel
theorem dd_X11_feed_1 : decode mb_X11_feed 1 = .ok (.iconst 1, 1) := by decide +kernel
theorem dd_X11_feed_2 : decode mb_X11_feed 2 = .ok (.iconst 4, 1) := by decide +kernel
theorem dd_X11_feed_3 : decode mb_X11_feed 3 = .ok (.invokestatic 59, 3) := by decide +kernel
theorem dd_X11_feed_6 : decode mb_X11_feed 6 = .ok (.ifCond .ne 10, 3) := by decide +kernel
theorem dd_X11_feed_9 : decode mb_X11_feed 9 = .ok (.aload_n 0, 1) := by decide +kernel
theorem dd_X11_feed_10 : decode mb_X11_feed 10 = .ok (.bipush (-2), 2) := by decide +kernel
theorem dd_X11_feed_12 : decode mb_X11_feed 12 = .ok (.invokevirtual 63, 3) := by decide +kernel
theorem dd_X11_feed_15 : decode mb_X11_feed 15 = .ok (.ireturn, 1) := by decide +kernel
theorem dd_X11_feed_16 : decode mb_X11_feed 16 = .ok (.aload_n 0, 1) := by decide +kernel
theorem dd_X11_feed_17 : decode mb_X11_feed 17 = .ok (.getfield 22, 3) := by decide +kernel
theorem dd_X11_feed_20 : decode mb_X11_feed 20 = .ok (.getfield 188, 3) := by decide +kernel
theorem dd_X11_feed_23 : decode mb_X11_feed 23 = .ok (.iload_n 2, 1) := by decide +kernel
theorem dd_X11_feed_24 : decode mb_X11_feed 24 = .ok (.iadd, 1) := by decide +kernel
theorem dd_X11_feed_25 : decode mb_X11_feed 25 = .ok (.bipush 120, 2) := by decide +kernel
theorem dd_X11_feed_27 : decode mb_X11_feed 27 = .ok (.if_icmp .le 10, 3) := by decide +kernel
theorem dd_X11_feed_37 : decode mb_X11_feed 37 = .ok (.aload_n 0, 1) := by decide +kernel
theorem dd_X11_feed_38 : decode mb_X11_feed 38 = .ok (.getfield 22, 3) := by decide +kernel
theorem dd_X11_feed_41 : decode mb_X11_feed 41 = .ok (.iload_n 1, 1) := by decide +kernel
theorem dd_X11_feed_42 : decode mb_X11_feed 42 = .ok (.iload_n 2, 1) := by decide +kernel
theorem dd_X11_feed_43 : decode mb_X11_feed 43 = .ok (.invokevirtual 189, 3) := by decide +kernel
theorem dd_X11_feed_46 : decode mb_X11_feed 46 = .ok (.aload_n 0, 1) := by decide +kernel
theorem dd_X11_feed_47 : decode mb_X11_feed 47 = .ok (.getfield 22, 3) := by decide +kernel
theorem dd_X11_feed_50 : decode mb_X11_feed 50 = .ok (.getfield 188, 3) := by decide +kernel
theorem dd_X11_feed_53 : decode mb_X11_feed 53 = .ok (.ireturn, 1) := by decide +kernel
theorem dd_X11_go_0 : decode mb_X11_go 0 = .ok (.iload_n 1, 1) := by decide +kernel
theorem dd_X11_go_1 : decode mb_X11_go 1 = .ok (.iconst 1, 1) := by decide +kernel
theorem dd_X11_go_2 : decode mb_X11_go 2 = .ok (.bipush 12, 2) := by decide +kernel
theorem dd_X11_go_4 : decode mb_X11_go 4 = .ok (.invokestatic 59, 3) := by decide +kernel
theorem dd_X11_go_7 : decode mb_X11_go 7 = .ok (.ifCond .ne 10, 3) := by decide +kernel
theorem dd_X11_go_10 : decode mb_X11_go 10 = .ok (.aload_n 0, 1) := by decide +kernel
theorem dd_X11_go_11 : decode mb_X11_go 11 = .ok (.bipush (-2), 2) := by decide +kernel
theorem dd_X11_go_13 : decode mb_X11_go 13 = .ok (.invokevirtual 63, 3) := by decide +kernel
theorem dd_X11_go_16 : decode mb_X11_go 16 = .ok (.ireturn, 1) := by decide +kernel
theorem dd_X11_go_17 : decode mb_X11_go 17 = .ok (.aload_n 0, 1) := by decide +kernel
theorem dd_X11_go_18 : decode mb_X11_go 18 = .ok (.getfield 29, 3) := by decide +kernel
theorem dd_X11_go_21 : decode mb_X11_go 21 = .ok (.getfield 282, 3) := by decide +kernel
theorem dd_X11_go_24 : decode mb_X11_go 24 = .ok (.bipush 12, 2) := by decide +kernel
theorem dd_X11_go_26 : decode mb_X11_go 26 = .ok (.if_icmp .lt 10, 3) := by decide +kernel
theorem dd_X11_go_36 : decode mb_X11_go 36 = .ok (.bipush 12, 2) := by decide +kernel
theorem dd_X11_go_38 : decode mb_X11_go 38 = .ok (.aload_n 0, 1) := by decide +kernel
theorem dd_X11_go_39 : decode mb_X11_go 39 = .ok (.getfield 29, 3) := by decide +kernel
theorem dd_X11_go_42 : decode mb_X11_go 42 = .ok (.getfield 282, 3) := by decide +kernel
theorem dd_X11_go_45 : decode mb_X11_go 45 = .ok (.iload_n 1, 1) := by decide +kernel
theorem dd_X11_go_46 : decode mb_X11_go 46 = .ok (.iadd, 1) := by decide +kernel
theorem dd_X11_go_47 : decode mb_X11_go 47 = .ok (.invokestatic 284, 3) := by decide +kernel
theorem dd_X11_go_50 : decode mb_X11_go 50 = .ok (.istore_n 2, 1) := by decide +kernel
theorem dd_X11_go_51 : decode mb_X11_go 51 = .ok (.iconst 0, 1) := by decide +kernel
theorem dd_X11_go_52 : decode mb_X11_go 52 = .ok (.istore_n 3, 1) := by decide +kernel
theorem dd_X11_go_53 : decode mb_X11_go 53 = .ok (.aload_n 0, 1) := by decide +kernel
theorem dd_X11_go_54 : decode mb_X11_go 54 = .ok (.getfield 39, 3) := by decide +kernel
theorem dd_X11_go_57 : decode mb_X11_go 57 = .ok (.aload_n 0, 1) := by decide +kernel
theorem dd_X11_go_58 : decode mb_X11_go 58 = .ok (.getfield 29, 3) := by decide +kernel
theorem dd_X11_go_61 : decode mb_X11_go 61 = .ok (.aload_n 0, 1) := by decide +kernel
theorem dd_X11_go_62 : decode mb_X11_go 62 = .ok (.getfield 29, 3) := by decide +kernel
theorem dd_X11_go_65 : decode mb_X11_go 65 = .ok (.getfield 245, 3) := by decide +kernel
theorem dd_X11_go_68 : decode mb_X11_go 68 = .ok (.aload_n 0, 1) := by decide +kernel
theorem dd_X11_go_69 : decode mb_X11_go 69 = .ok (.getfield 29, 3) := by decide +kernel
theorem dd_X11_go_72 : decode mb_X11_go 72 = .ok (.getfield 248, 3) := by decide +kernel
theorem dd_X11_go_75 : decode mb_X11_go 75 = .ok (.invokevirtual 257, 3) := by decide +kernel
theorem dd_X11_go_78 : decode mb_X11_go 78 = .ok (.aload_n 0, 1) := by decide +kernel
theorem dd_X11_go_79 : decode mb_X11_go 79 = .ok (.getfield 29, 3) := by decide +kernel
theorem dd_X11_go_82 : decode mb_X11_go 82 = .ok (.getfield 282, 3) := by decide +kernel
theorem dd_X11_go_85 : decode mb_X11_go 85 = .ok (.istore 4, 2) := by decide +kernel
theorem dd_X11_go_87 : decode mb_X11_go 87 = .ok (.iload 4, 2) := by decide +kernel
theorem dd_X11_go_89 : decode mb_X11_go 89 = .ok (.iload_n 2, 1) := by decide +kernel
theorem dd_X11_go_90 : decode mb_X11_go 90 = .ok (.if_icmp .ge 25, 3) := by decide +kernel
theorem dd_X11_go_93 : decode mb_X11_go 93 = .ok (.iload_n 3, 1) := by decide +kernel
theorem dd_X11_go_94 : decode mb_X11_go 94 = .ok (.aload_n 0, 1) := by decide +kernel
theorem dd_X11_go_95 : decode mb_X11_go 95 = .ok (.getfield 39, 3) := by decide +kernel
theorem dd_X11_go_98 : decode mb_X11_go 98 = .ok (.aload_n 0, 1) := by decide +kernel
theorem dd_X11_go_99 : decode mb_X11_go 99 = .ok (.getfield 29, 3) := by decide +kernel
theorem dd_X11_go_102 : decode mb_X11_go 102 = .ok (.iload 4, 2) := by decide +kernel
theorem dd_X11_go_104 : decode mb_X11_go 104 = .ok (.invokevirtual 272, 3) := by decide +kernel
theorem dd_X11_go_107 : decode mb_X11_go 107 = .ok (.iadd, 1) := by decide +kernel
theorem dd_X11_go_108 : decode mb_X11_go 108 = .ok (.istore_n 3, 1) := by decide +kernel
theorem dd_X11_go_109 : decode mb_X11_go 109 = .ok (.iinc 4 1, 3) := by decide +kernel
theorem dd_X11_go_112 : decode mb_X11_go 112 = .ok (.goto (-25), 3) := by decide +kernel
theorem dd_X11_go_115 : decode mb_X11_go 115 = .ok (.aload_n 0, 1) := by decide +kernel
theorem dd_X11_go_116 : decode mb_X11_go 116 = .ok (.getfield 39, 3) := by decide +kernel
theorem dd_X11_go_119 : decode mb_X11_go 119 = .ok (.aload_n 0, 1) := by decide +kernel
theorem dd_X11_go_120 : decode mb_X11_go 120 = .ok (.getfield 29, 3) := by decide +kernel
theorem dd_X11_go_123 : decode mb_X11_go 123 = .ok (.invokevirtual 289, 3) := by decide +kernel
theorem dd_X11_go_126 : decode mb_X11_go 126 = .ok (.aload_n 0, 1) := by decide +kernel
theorem dd_X11_go_127 : decode mb_X11_go 127 = .ok (.getfield 29, 3) := by decide +kernel
theorem dd_X11_go_130 : decode mb_X11_go 130 = .ok (.iload_n 2, 1) := by decide +kernel
theorem dd_X11_go_131 : decode mb_X11_go 131 = .ok (.putfield 282, 3) := by decide +kernel
theorem dd_X11_go_134 : decode mb_X11_go 134 = .ok (.aload_n 0, 1) := by decide +kernel
theorem dd_X11_go_135 : decode mb_X11_go 135 = .ok (.getfield 29, 3) := by decide +kernel
theorem dd_X11_go_138 : decode mb_X11_go 138 = .ok (.dup, 1) := by decide +kernel
theorem dd_X11_go_139 : decode mb_X11_go 139 = .ok (.getfield 293, 3) := by decide +kernel
theorem dd_X11_go_142 : decode mb_X11_go 142 = .ok (.iload_n 3, 1) := by decide +kernel
theorem dd_X11_go_143 : decode mb_X11_go 143 = .ok (.iadd, 1) := by decide +kernel
theorem dd_X11_go_144 : decode mb_X11_go 144 = .ok (.putfield 293, 3) := by decide +kernel
theorem dd_X11_go_147 : decode mb_X11_go 147 = .ok (.iload_n 3, 1) := by decide +kernel
theorem dd_X11_go_148 : decode mb_X11_go 148 = .ok (.ireturn, 1) := by decide +kernel
theorem dd_X11_goes_0 : decode mb_X11_goes 0 = .ok (.aload_n 0, 1) := by decide +kernel
theorem dd_X11_goes_1 : decode mb_X11_goes 1 = .ok (.getfield 29, 3) := by decide +kernel
theorem dd_X11_goes_4 : decode mb_X11_goes 4 = .ok (.getfield 168, 3) := by decide +kernel
theorem dd_X11_goes_7 : decode mb_X11_goes 7 = .ok (.iload_n 1, 1) := by decide +kernel
theorem dd_X11_goes_8 : decode mb_X11_goes 8 = .ok (.invokevirtual 177, 3) := by decide +kernel
theorem dd_X11_goes_11 : decode mb_X11_goes 11 = .ok (.ifCond .eq 22, 3) := by decide +kernel
theorem dd_X11_goes_33 : decode mb_X11_goes 33 = .ok (.aload_n 0, 1) := by decide +kernel
theorem dd_X11_goes_34 : decode mb_X11_goes 34 = .ok (.bipush (-2), 2) := by decide +kernel
theorem dd_X11_goes_36 : decode mb_X11_goes 36 = .ok (.invokevirtual 63, 3) := by decide +kernel
theorem dd_X11_goes_39 : decode mb_X11_goes 39 = .ok (.ireturn, 1) := by decide +kernel
theorem dd_X11_hall_0 : decode mb_X11_hall 0 = .ok (.iload_n 1, 1) := by decide +kernel
theorem dd_X11_hall_1 : decode mb_X11_hall 1 = .ok (.iconst 0, 1) := by decide +kernel
theorem dd_X11_hall_2 : decode mb_X11_hall 2 = .ok (.iconst 2, 1) := by decide +kernel
theorem dd_X11_hall_3 : decode mb_X11_hall 3 = .ok (.invokestatic 59, 3) := by decide +kernel
theorem dd_X11_hall_6 : decode mb_X11_hall 6 = .ok (.ifCond .eq 17, 3) := by decide +kernel
theorem dd_X11_hall_9 : decode mb_X11_hall 9 = .ok (.aload_n 0, 1) := by decide +kernel
theorem dd_X11_hall_10 : decode mb_X11_hall 10 = .ok (.getfield 29, 3) := by decide +kernel
theorem dd_X11_hall_13 : decode mb_X11_hall 13 = .ok (.getfield 113, 3) := by decide +kernel
theorem dd_X11_hall_16 : decode mb_X11_hall 16 = .ok (.iload_n 2, 1) := by decide +kernel
theorem dd_X11_hall_17 : decode mb_X11_hall 17 = .ok (.invokevirtual 117, 3) := by decide +kernel
theorem dd_X11_hall_20 : decode mb_X11_hall 20 = .ok (.ifCond .ne 10, 3) := by decide +kernel
theorem dd_X11_hall_23 : decode mb_X11_hall 23 = .ok (.aload_n 0, 1) := by decide +kernel
theorem dd_X11_hall_24 : decode mb_X11_hall 24 = .ok (.bipush (-2), 2) := by decide +kernel
theorem dd_X11_hall_26 : decode mb_X11_hall 26 = .ok (.invokevirtual 63, 3) := by decide +kernel
theorem dd_X11_hall_29 : decode mb_X11_hall 29 = .ok (.ireturn, 1) := by decide +kernel
theorem dd_X11_holds_0 : decode mb_X11_holds 0 = .ok (.iload_n 1, 1) := by decide +kernel
theorem dd_X11_holds_1 : decode mb_X11_holds 1 = .ok (.invokestatic 55, 3) := by decide +kernel
theorem dd_X11_holds_4 : decode mb_X11_holds 4 = .ok (.ifCond .eq 15, 3) := by decide +kernel
theorem dd_X11_holds_7 : decode mb_X11_holds 7 = .ok (.aload_n 0, 1) := by decide +kernel
theorem dd_X11_holds_8 : decode mb_X11_holds 8 = .ok (.getfield 11, 3) := by decide +kernel
theorem dd_X11_holds_11 : decode mb_X11_holds 11 = .ok (.iload_n 1, 1) := by decide +kernel
theorem dd_X11_holds_12 : decode mb_X11_holds 12 = .ok (.aaload, 1) := by decide +kernel
theorem dd_X11_holds_13 : decode mb_X11_holds 13 = .ok (.getfield 89, 3) := by decide +kernel
theorem dd_X11_holds_16 : decode mb_X11_holds 16 = .ok (.goto 4, 3) := by decide +kernel
theorem dd_X11_holds_19 : decode mb_X11_holds 19 = .ok (.iconst (-1), 1) := by decide +kernel
theorem dd_X11_holds_20 : decode mb_X11_holds 20 = .ok (.ireturn, 1) := by decide +kernel
theorem dd_X11_image_0 : decode mb_X11_image 0 = .ok (.aload_n 0, 1) := by decide +kernel
theorem dd_X11_image_1 : decode mb_X11_image 1 = .ok (.getfield 33, 3) := by decide +kernel
theorem dd_X11_image_4 : decode mb_X11_image 4 = .ok (.aload_n 0, 1) := by decide +kernel
theorem dd_X11_image_5 : decode mb_X11_image 5 = .ok (.getfield 29, 3) := by decide +kernel
theorem dd_X11_image_8 : decode mb_X11_image 8 = .ok (.invokevirtual 369, 3) := by decide +kernel
theorem dd_X11_image_11 : decode mb_X11_image 11 = .ok (.aload_n 0, 1) := by decide +kernel
theorem dd_X11_image_12 : decode mb_X11_image 12 = .ok (.iconst 1, 1) := by decide +kernel
theorem dd_X11_image_13 : decode mb_X11_image 13 = .ok (.putfield 50, 3) := by decide +kernel
theorem dd_X11_image_16 : decode mb_X11_image 16 = .ok (.iconst 1, 1) := by decide +kernel
theorem dd_X11_image_17 : decode mb_X11_image 17 = .ok (.ireturn, 1) := by decide +kernel
theorem dd_X11_isHour_0 : decode mb_X11_isHour 0 = .ok (.iload_n 0, 1) := by decide +kernel
theorem dd_X11_isHour_1 : decode mb_X11_isHour 1 = .ok (.iconst 0, 1) := by decide +kernel
theorem dd_X11_isHour_2 : decode mb_X11_isHour 2 = .ok (.bipush 11, 2) := by decide +kernel
theorem dd_X11_isHour_4 : decode mb_X11_isHour 4 = .ok (.invokestatic 59, 3) := by decide +kernel
theorem dd_X11_isHour_7 : decode mb_X11_isHour 7 = .ok (.ireturn, 1) := by decide +kernel
theorem dd_X11_isKind_0 : decode mb_X11_isKind 0 = .ok (.iload_n 0, 1) := by decide +kernel
theorem dd_X11_isKind_1 : decode mb_X11_isKind 1 = .ok (.iconst 0, 1) := by decide +kernel
theorem dd_X11_isKind_2 : decode mb_X11_isKind 2 = .ok (.iconst 5, 1) := by decide +kernel
theorem dd_X11_isKind_3 : decode mb_X11_isKind 3 = .ok (.invokestatic 59, 3) := by decide +kernel
theorem dd_X11_isKind_6 : decode mb_X11_isKind 6 = .ok (.ireturn, 1) := by decide +kernel
theorem dd_X11_isKinds_0 : decode mb_X11_isKinds 0 = .ok (.iload_n 0, 1) := by decide +kernel
theorem dd_X11_isKinds_1 : decode mb_X11_isKinds 1 = .ok (.iconst 0, 1) := by decide +kernel
theorem dd_X11_isKinds_2 : decode mb_X11_isKinds 2 = .ok (.bipush 63, 2) := by decide +kernel
theorem dd_X11_isKinds_4 : decode mb_X11_isKinds 4 = .ok (.invokestatic 59, 3) := by decide +kernel
theorem dd_X11_isKinds_7 : decode mb_X11_isKinds 7 = .ok (.ireturn, 1) := by decide +kernel
theorem dd_X11_isPerson_0 : decode mb_X11_isPerson 0 = .ok (.iload_n 0, 1) := by decide +kernel
theorem dd_X11_isPerson_1 : decode mb_X11_isPerson 1 = .ok (.iconst 0, 1) := by decide +kernel
theorem dd_X11_isPerson_2 : decode mb_X11_isPerson 2 = .ok (.bipush 15, 2) := by decide +kernel
theorem dd_X11_isPerson_4 : decode mb_X11_isPerson 4 = .ok (.invokestatic 59, 3) := by decide +kernel
theorem dd_X11_isPerson_7 : decode mb_X11_isPerson 7 = .ok (.ireturn, 1) := by decide +kernel
theorem dd_X11_isPersonOrNone_0 : decode mb_X11_isPersonOrNone 0 = .ok (.iload_n 0, 1) := by decide +kernel
theorem dd_X11_isPersonOrNone_1 : decode mb_X11_isPersonOrNone 1 = .ok (.iconst (-1), 1) := by decide +kernel
theorem dd_X11_isPersonOrNone_2 : decode mb_X11_isPersonOrNone 2 = .ok (.if_icmp .eq 10, 3) := by decide +kernel
theorem dd_X11_isPersonOrNone_5 : decode mb_X11_isPersonOrNone 5 = .ok (.iload_n 0, 1) := by decide +kernel
theorem dd_X11_isPersonOrNone_6 : decode mb_X11_isPersonOrNone 6 = .ok (.invokestatic 339, 3) := by decide +kernel
theorem dd_X11_isPersonOrNone_9 : decode mb_X11_isPersonOrNone 9 = .ok (.ifCond .eq 7, 3) := by decide +kernel
theorem dd_X11_isPersonOrNone_12 : decode mb_X11_isPersonOrNone 12 = .ok (.iconst 1, 1) := by decide +kernel
theorem dd_X11_isPersonOrNone_13 : decode mb_X11_isPersonOrNone 13 = .ok (.goto 4, 3) := by decide +kernel
theorem dd_X11_isPersonOrNone_16 : decode mb_X11_isPersonOrNone 16 = .ok (.iconst 0, 1) := by decide +kernel
theorem dd_X11_isPersonOrNone_17 : decode mb_X11_isPersonOrNone 17 = .ok (.ireturn, 1) := by decide +kernel
theorem dd_X11_isShelf_0 : decode mb_X11_isShelf 0 = .ok (.iload_n 0, 1) := by decide +kernel
theorem dd_X11_isShelf_1 : decode mb_X11_isShelf 1 = .ok (.iconst 0, 1) := by decide +kernel
theorem dd_X11_isShelf_2 : decode mb_X11_isShelf 2 = .ok (.bipush 7, 2) := by decide +kernel
theorem dd_X11_isShelf_4 : decode mb_X11_isShelf 4 = .ok (.invokestatic 59, 3) := by decide +kernel
theorem dd_X11_isShelf_7 : decode mb_X11_isShelf 7 = .ok (.ireturn, 1) := by decide +kernel
theorem dd_X11_judge_0 : decode mb_X11_judge 0 = .ok (.aload_n 0, 1) := by decide +kernel
theorem dd_X11_judge_1 : decode mb_X11_judge 1 = .ok (.iload_n 1, 1) := by decide +kernel
theorem dd_X11_judge_2 : decode mb_X11_judge 2 = .ok (.invokevirtual 71, 3) := by decide +kernel
theorem dd_X11_judge_5 : decode mb_X11_judge 5 = .ok (.istore_n 2, 1) := by decide +kernel
theorem dd_X11_judge_6 : decode mb_X11_judge 6 = .ok (.iload_n 2, 1) := by decide +kernel
theorem dd_X11_judge_7 : decode mb_X11_judge 7 = .ok (.ifCond .eq 9, 3) := by decide +kernel
theorem dd_X11_judge_10 : decode mb_X11_judge 10 = .ok (.aload_n 0, 1) := by decide +kernel
theorem dd_X11_judge_11 : decode mb_X11_judge 11 = .ok (.iload_n 2, 1) := by decide +kernel
theorem dd_X11_judge_12 : decode mb_X11_judge 12 = .ok (.invokevirtual 63, 3) := by decide +kernel
theorem dd_X11_judge_15 : decode mb_X11_judge 15 = .ok (.ireturn, 1) := by decide +kernel
theorem dd_X11_lady_0 : decode mb_X11_lady 0 = .ok (.iload_n 1, 1) := by decide +kernel
theorem dd_X11_lady_1 : decode mb_X11_lady 1 = .ok (.invokestatic 165, 3) := by decide +kernel
theorem dd_X11_lady_4 : decode mb_X11_lady 4 = .ok (.ifCond .eq 14, 3) := by decide +kernel
theorem dd_X11_lady_7 : decode mb_X11_lady 7 = .ok (.iload_n 2, 1) := by decide +kernel
theorem dd_X11_lady_8 : decode mb_X11_lady 8 = .ok (.iconst 0, 1) := by decide +kernel
theorem dd_X11_lady_9 : decode mb_X11_lady 9 = .ok (.sipush 999, 3) := by decide +kernel
theorem dd_X11_lady_12 : decode mb_X11_lady 12 = .ok (.invokestatic 59, 3) := by decide +kernel
theorem dd_X11_lady_15 : decode mb_X11_lady 15 = .ok (.ifCond .ne 10, 3) := by decide +kernel
theorem dd_X11_lady_18 : decode mb_X11_lady 18 = .ok (.aload_n 0, 1) := by decide +kernel
theorem dd_X11_lady_19 : decode mb_X11_lady 19 = .ok (.bipush (-2), 2) := by decide +kernel
theorem dd_X11_lady_21 : decode mb_X11_lady 21 = .ok (.invokevirtual 63, 3) := by decide +kernel
theorem dd_X11_lady_24 : decode mb_X11_lady 24 = .ok (.ireturn, 1) := by decide +kernel
theorem dd_X11_lady_25 : decode mb_X11_lady 25 = .ok (.aload_n 0, 1) := by decide +kernel
theorem dd_X11_lady_26 : decode mb_X11_lady 26 = .ok (.getfield 29, 3) := by decide +kernel
theorem dd_X11_lady_29 : decode mb_X11_lady 29 = .ok (.getfield 168, 3) := by decide +kernel
theorem dd_X11_lady_32 : decode mb_X11_lady 32 = .ok (.getfield 172, 3) := by decide +kernel
theorem dd_X11_lady_35 : decode mb_X11_lady 35 = .ok (.iconst 5, 1) := by decide +kernel
theorem dd_X11_lady_36 : decode mb_X11_lady 36 = .ok (.if_icmp .lt 10, 3) := by decide +kernel
theorem dd_X11_lady_46 : decode mb_X11_lady 46 = .ok (.aload_n 0, 1) := by decide +kernel
theorem dd_X11_lady_47 : decode mb_X11_lady 47 = .ok (.getfield 29, 3) := by decide +kernel
theorem dd_X11_lady_50 : decode mb_X11_lady 50 = .ok (.getfield 168, 3) := by decide +kernel
theorem dd_X11_lady_53 : decode mb_X11_lady 53 = .ok (.iload_n 1, 1) := by decide +kernel
theorem dd_X11_lady_54 : decode mb_X11_lady 54 = .ok (.iload_n 2, 1) := by decide +kernel
theorem dd_X11_lady_55 : decode mb_X11_lady 55 = .ok (.invokevirtual 175, 3) := by decide +kernel
theorem dd_X11_lady_58 : decode mb_X11_lady 58 = .ok (.ireturn, 1) := by decide +kernel
theorem dd_X11_laid_0 : decode mb_X11_laid 0 = .ok (.iload_n 1, 1) := by decide +kernel
theorem dd_X11_laid_1 : decode mb_X11_laid 1 = .ok (.iconst 1, 1) := by decide +kernel
theorem dd_X11_laid_2 : decode mb_X11_laid 2 = .ok (.bipush 10, 2) := by decide +kernel
theorem dd_X11_laid_4 : decode mb_X11_laid 4 = .ok (.invokestatic 59, 3) := by decide +kernel
theorem dd_X11_laid_7 : decode mb_X11_laid 7 = .ok (.ifCond .eq 17, 3) := by decide +kernel
theorem dd_X11_laid_10 : decode mb_X11_laid 10 = .ok (.aload_n 0, 1) := by decide +kernel
theorem dd_X11_laid_11 : decode mb_X11_laid 11 = .ok (.getfield 29, 3) := by decide +kernel
theorem dd_X11_laid_14 : decode mb_X11_laid 14 = .ok (.getfield 113, 3) := by decide +kernel
theorem dd_X11_laid_17 : decode mb_X11_laid 17 = .ok (.iload_n 2, 1) := by decide +kernel
theorem dd_X11_laid_18 : decode mb_X11_laid 18 = .ok (.invokevirtual 117, 3) := by decide +kernel
theorem dd_X11_laid_21 : decode mb_X11_laid 21 = .ok (.ifCond .ne 10, 3) := by decide +kernel
theorem dd_X11_laid_24 : decode mb_X11_laid 24 = .ok (.aload_n 0, 1) := by decide +kernel
theorem dd_X11_laid_25 : decode mb_X11_laid 25 = .ok (.bipush (-2), 2) := by decide +kernel
theorem dd_X11_laid_27 : decode mb_X11_laid 27 = .ok (.invokevirtual 63, 3) := by decide +kernel
theorem dd_X11_laid_30 : decode mb_X11_laid 30 = .ok (.ireturn, 1) := by decide +kernel
theorem dd_X11_lawOf_0 : decode mb_X11_lawOf 0 = .ok (.aload_n 0, 1) := by decide +kernel
theorem dd_X11_lawOf_1 : decode mb_X11_lawOf 1 = .ok (.getfield 29, 3) := by decide +kernel
theorem dd_X11_lawOf_4 : decode mb_X11_lawOf 4 = .ok (.getfield 178, 3) := by decide +kernel
theorem dd_X11_lawOf_7 : decode mb_X11_lawOf 7 = .ok (.iload_n 1, 1) := by decide +kernel
theorem dd_X11_lawOf_8 : decode mb_X11_lawOf 8 = .ok (.invokevirtual 182, 3) := by decide +kernel
theorem dd_X11_lawOf_11 : decode mb_X11_lawOf 11 = .ok (.ifCond .eq 12, 3) := by decide +kernel
theorem dd_X11_lawOf_23 : decode mb_X11_lawOf 23 = .ok (.aload_n 0, 1) := by decide +kernel
theorem dd_X11_lawOf_24 : decode mb_X11_lawOf 24 = .ok (.bipush (-2), 2) := by decide +kernel
theorem dd_X11_lawOf_26 : decode mb_X11_lawOf 26 = .ok (.invokevirtual 63, 3) := by decide +kernel
theorem dd_X11_lawOf_29 : decode mb_X11_lawOf 29 = .ok (.ireturn, 1) := by decide +kernel
theorem dd_X11_longest_0 : decode mb_X11_longest 0 = .ok (.aload_n 0, 1) := by decide +kernel
theorem dd_X11_longest_1 : decode mb_X11_longest 1 = .ok (.getfield 29, 3) := by decide +kernel
theorem dd_X11_longest_4 : decode mb_X11_longest 4 = .ok (.getfield 321, 3) := by decide +kernel
theorem dd_X11_longest_7 : decode mb_X11_longest 7 = .ok (.invokevirtual 336, 3) := by decide +kernel
theorem dd_X11_longest_10 : decode mb_X11_longest 10 = .ok (.ireturn, 1) := by decide +kernel
theorem dd_X11_looks_0 : decode mb_X11_looks 0 = .ok (.iload_n 1, 1) := by decide +kernel
theorem dd_X11_looks_1 : decode mb_X11_looks 1 = .ok (.invokestatic 339, 3) := by decide +kernel
theorem dd_X11_looks_4 : decode mb_X11_looks 4 = .ok (.ifCond .eq 13, 3) := by decide +kernel
theorem dd_X11_looks_7 : decode mb_X11_looks 7 = .ok (.iload_n 2, 1) := by decide +kernel
theorem dd_X11_looks_8 : decode mb_X11_looks 8 = .ok (.iconst 0, 1) := by decide +kernel
theorem dd_X11_looks_9 : decode mb_X11_looks 9 = .ok (.bipush 31, 2) := by decide +kernel
theorem dd_X11_looks_11 : decode mb_X11_looks 11 = .ok (.invokestatic 59, 3) := by decide +kernel
theorem dd_X11_looks_14 : decode mb_X11_looks 14 = .ok (.ifCond .ne 10, 3) := by decide +kernel
theorem dd_X11_looks_17 : decode mb_X11_looks 17 = .ok (.aload_n 0, 1) := by decide +kernel
theorem dd_X11_looks_18 : decode mb_X11_looks 18 = .ok (.bipush (-2), 2) := by decide +kernel
theorem dd_X11_looks_20 : decode mb_X11_looks 20 = .ok (.invokevirtual 63, 3) := by decide +kernel
theorem dd_X11_looks_23 : decode mb_X11_looks 23 = .ok (.ireturn, 1) := by decide +kernel
theorem dd_X11_looks_24 : decode mb_X11_looks 24 = .ok (.aload_n 0, 1) := by decide +kernel
theorem dd_X11_looks_25 : decode mb_X11_looks 25 = .ok (.getfield 29, 3) := by decide +kernel
theorem dd_X11_looks_28 : decode mb_X11_looks 28 = .ok (.getfield 342, 3) := by decide +kernel
theorem dd_X11_looks_31 : decode mb_X11_looks 31 = .ok (.getfield 350, 3) := by decide +kernel
theorem dd_X11_looks_34 : decode mb_X11_looks 34 = .ok (.iload_n 1, 1) := by decide +kernel
theorem dd_X11_looks_35 : decode mb_X11_looks 35 = .ok (.iaload, 1) := by decide +kernel
theorem dd_X11_looks_36 : decode mb_X11_looks 36 = .ok (.istore_n 3, 1) := by decide +kernel
theorem dd_X11_looks_37 : decode mb_X11_looks 37 = .ok (.aload_n 0, 1) := by decide +kernel
theorem dd_X11_looks_38 : decode mb_X11_looks 38 = .ok (.getfield 29, 3) := by decide +kernel
theorem dd_X11_looks_41 : decode mb_X11_looks 41 = .ok (.getfield 342, 3) := by decide +kernel
theorem dd_X11_looks_44 : decode mb_X11_looks 44 = .ok (.getfield 350, 3) := by decide +kernel
theorem dd_X11_looks_47 : decode mb_X11_looks 47 = .ok (.iload_n 1, 1) := by decide +kernel
theorem dd_X11_looks_48 : decode mb_X11_looks 48 = .ok (.iload_n 2, 1) := by decide +kernel
theorem dd_X11_looks_49 : decode mb_X11_looks 49 = .ok (.iastore, 1) := by decide +kernel
theorem dd_X11_looks_50 : decode mb_X11_looks 50 = .ok (.iload_n 3, 1) := by decide +kernel
theorem dd_X11_looks_51 : decode mb_X11_looks 51 = .ok (.ireturn, 1) := by decide +kernel
theorem dd_X11_loses_0 : decode mb_X11_loses 0 = .ok (.aload_n 0, 1) := by decide +kernel
theorem dd_X11_loses_1 : decode mb_X11_loses 1 = .ok (.getfield 29, 3) := by decide +kernel
theorem dd_X11_loses_4 : decode mb_X11_loses 4 = .ok (.getfield 168, 3) := by decide +kernel
theorem dd_X11_loses_7 : decode mb_X11_loses 7 = .ok (.iload_n 1, 1) := by decide +kernel
theorem dd_X11_loses_8 : decode mb_X11_loses 8 = .ok (.invokevirtual 177, 3) := by decide +kernel
theorem dd_X11_loses_11 : decode mb_X11_loses 11 = .ok (.ifCond .eq 10, 3) := by decide +kernel
theorem dd_X11_loses_21 : decode mb_X11_loses 21 = .ok (.aload_n 0, 1) := by decide +kernel
theorem dd_X11_loses_22 : decode mb_X11_loses 22 = .ok (.bipush (-2), 2) := by decide +kernel
theorem dd_X11_loses_24 : decode mb_X11_loses 24 = .ok (.invokevirtual 63, 3) := by decide +kernel
theorem dd_X11_loses_27 : decode mb_X11_loses 27 = .ok (.ireturn, 1) := by decide +kernel
theorem dd_X11_mark_0 : decode mb_X11_mark 0 = .ok (.aload_n 0, 1) := by decide +kernel
theorem dd_X11_mark_1 : decode mb_X11_mark 1 = .ok (.getfield 29, 3) := by decide +kernel
theorem dd_X11_mark_4 : decode mb_X11_mark 4 = .ok (.getfield 113, 3) := by decide +kernel
theorem dd_X11_mark_7 : decode mb_X11_mark 7 = .ok (.iload_n 1, 1) := by decide +kernel
theorem dd_X11_mark_8 : decode mb_X11_mark 8 = .ok (.invokevirtual 117, 3) := by decide +kernel
theorem dd_X11_mark_11 : decode mb_X11_mark 11 = .ok (.ifCond .eq 19, 3) := by decide +kernel
theorem dd_X11_mark_30 : decode mb_X11_mark 30 = .ok (.aload_n 0, 1) := by decide +kernel
theorem dd_X11_mark_31 : decode mb_X11_mark 31 = .ok (.bipush (-2), 2) := by decide +kernel
theorem dd_X11_mark_33 : decode mb_X11_mark 33 = .ok (.invokevirtual 63, 3) := by decide +kernel
theorem dd_X11_mark_36 : decode mb_X11_mark 36 = .ok (.ireturn, 1) := by decide +kernel
theorem dd_X11_morning_0 : decode mb_X11_morning 0 = .ok (.aload_n 0, 1) := by decide +kernel
theorem dd_X11_morning_1 : decode mb_X11_morning 1 = .ok (.getfield 29, 3) := by decide +kernel
theorem dd_X11_morning_4 : decode mb_X11_morning 4 = .ok (.getfield 282, 3) := by decide +kernel
theorem dd_X11_morning_7 : decode mb_X11_morning 7 = .ok (.istore_n 1, 1) := by decide +kernel
theorem dd_X11_morning_8 : decode mb_X11_morning 8 = .ok (.aload_n 0, 1) := by decide +kernel
theorem dd_X11_morning_9 : decode mb_X11_morning 9 = .ok (.getfield 29, 3) := by decide +kernel
theorem dd_X11_morning_12 : decode mb_X11_morning 12 = .ok (.iconst 0, 1) := by decide +kernel
theorem dd_X11_morning_13 : decode mb_X11_morning 13 = .ok (.putfield 282, 3) := by decide +kernel
theorem dd_X11_morning_16 : decode mb_X11_morning 16 = .ok (.aload_n 0, 1) := by decide +kernel
theorem dd_X11_morning_17 : decode mb_X11_morning 17 = .ok (.getfield 29, 3) := by decide +kernel
theorem dd_X11_morning_20 : decode mb_X11_morning 20 = .ok (.iconst 0, 1) := by decide +kernel
theorem dd_X11_morning_21 : decode mb_X11_morning 21 = .ok (.putfield 293, 3) := by decide +kernel
theorem dd_X11_morning_24 : decode mb_X11_morning 24 = .ok (.iload_n 1, 1) := by decide +kernel
theorem dd_X11_morning_25 : decode mb_X11_morning 25 = .ok (.ireturn, 1) := by decide +kernel
theorem dd_X11_price_0 : decode mb_X11_price 0 = .ok (.aload_n 0, 1) := by decide +kernel
theorem dd_X11_price_1 : decode mb_X11_price 1 = .ok (.getfield 29, 3) := by decide +kernel
theorem dd_X11_price_4 : decode mb_X11_price 4 = .ok (.getfield 168, 3) := by decide +kernel
theorem dd_X11_price_7 : decode mb_X11_price 7 = .ok (.iload_n 1, 1) := by decide +kernel
theorem dd_X11_price_8 : decode mb_X11_price 8 = .ok (.invokevirtual 177, 3) := by decide +kernel
theorem dd_X11_price_11 : decode mb_X11_price 11 = .ok (.ifCond .eq 10, 3) := by decide +kernel
theorem dd_X11_price_21 : decode mb_X11_price 21 = .ok (.aload_n 0, 1) := by decide +kernel
theorem dd_X11_price_22 : decode mb_X11_price 22 = .ok (.bipush (-2), 2) := by decide +kernel
theorem dd_X11_price_24 : decode mb_X11_price 24 = .ok (.invokevirtual 63, 3) := by decide +kernel
theorem dd_X11_price_27 : decode mb_X11_price 27 = .ok (.ireturn, 1) := by decide +kernel
theorem dd_X11_refusalOfRow_0 : decode mb_X11_refusalOfRow 0 = .ok (.iload_n 1, 1) := by decide +kernel
theorem dd_X11_refusalOfRow_1 : decode mb_X11_refusalOfRow 1 = .ok (.invokestatic 55, 3) := by decide +kernel
theorem dd_X11_refusalOfRow_4 : decode mb_X11_refusalOfRow 4 = .ok (.ifCond .ne 6, 3) := by decide +kernel
theorem dd_X11_refusalOfRow_7 : decode mb_X11_refusalOfRow 7 = .ok (.bipush (-2), 2) := by decide +kernel
theorem dd_X11_refusalOfRow_9 : decode mb_X11_refusalOfRow 9 = .ok (.ireturn, 1) := by decide +kernel
theorem dd_X11_refusalOfRow_10 : decode mb_X11_refusalOfRow 10 = .ok (.aload_n 0, 1) := by decide +kernel
theorem dd_X11_refusalOfRow_11 : decode mb_X11_refusalOfRow 11 = .ok (.getfield 11, 3) := by decide +kernel
theorem dd_X11_refusalOfRow_14 : decode mb_X11_refusalOfRow 14 = .ok (.iload_n 1, 1) := by decide +kernel
theorem dd_X11_refusalOfRow_15 : decode mb_X11_refusalOfRow 15 = .ok (.aaload, 1) := by decide +kernel
theorem dd_X11_refusalOfRow_16 : decode mb_X11_refusalOfRow 16 = .ok (.invokevirtual 82, 3) := by decide +kernel
theorem dd_X11_refusalOfRow_19 : decode mb_X11_refusalOfRow 19 = .ok (.ifCond .eq 6, 3) := by decide +kernel
theorem dd_X11_refusalOfRow_25 : decode mb_X11_refusalOfRow 25 = .ok (.aload_n 0, 1) := by decide +kernel
theorem dd_X11_refusalOfRow_26 : decode mb_X11_refusalOfRow 26 = .ok (.getfield 11, 3) := by decide +kernel
theorem dd_X11_refusalOfRow_29 : decode mb_X11_refusalOfRow 29 = .ok (.iload_n 1, 1) := by decide +kernel
theorem dd_X11_refusalOfRow_30 : decode mb_X11_refusalOfRow 30 = .ok (.aaload, 1) := by decide +kernel
theorem dd_X11_refusalOfRow_31 : decode mb_X11_refusalOfRow 31 = .ok (.invokevirtual 92, 3) := by decide +kernel
theorem dd_X11_refusalOfRow_34 : decode mb_X11_refusalOfRow 34 = .ok (.ifCond .eq 8, 3) := by decide +kernel
theorem dd_X11_refusalOfRow_37 : decode mb_X11_refusalOfRow 37 = .ok (.bipush (-4), 2) := by decide +kernel
theorem dd_X11_refusalOfRow_39 : decode mb_X11_refusalOfRow 39 = .ok (.goto 4, 3) := by decide +kernel
theorem dd_X11_refusalOfRow_43 : decode mb_X11_refusalOfRow 43 = .ok (.ireturn, 1) := by decide +kernel
theorem dd_X11_refuse_0 : decode mb_X11_refuse 0 = .ok (.bipush (-2), 2) := by decide +kernel
theorem dd_X11_refuse_2 : decode mb_X11_refuse 2 = .ok (.iload_n 1, 1) := by decide +kernel
theorem dd_X11_refuse_3 : decode mb_X11_refuse 3 = .ok (.isub, 1) := by decide +kernel
theorem dd_X11_refuse_4 : decode mb_X11_refuse 4 = .ok (.istore_n 2, 1) := by decide +kernel
theorem dd_X11_refuse_5 : decode mb_X11_refuse 5 = .ok (.iload_n 2, 1) := by decide +kernel
theorem dd_X11_refuse_6 : decode mb_X11_refuse 6 = .ok (.iconst 0, 1) := by decide +kernel
theorem dd_X11_refuse_7 : decode mb_X11_refuse 7 = .ok (.iconst 4, 1) := by decide +kernel
theorem dd_X11_refuse_8 : decode mb_X11_refuse 8 = .ok (.invokestatic 59, 3) := by decide +kernel
theorem dd_X11_refuse_11 : decode mb_X11_refuse 11 = .ok (.ifCond .eq 13, 3) := by decide +kernel
theorem dd_X11_refuse_14 : decode mb_X11_refuse 14 = .ok (.aload_n 0, 1) := by decide +kernel
theorem dd_X11_refuse_15 : decode mb_X11_refuse 15 = .ok (.getfield 15, 3) := by decide +kernel
theorem dd_X11_refuse_18 : decode mb_X11_refuse 18 = .ok (.iload_n 2, 1) := by decide +kernel
theorem dd_X11_refuse_19 : decode mb_X11_refuse 19 = .ok (.dup2, 1) := by decide +kernel
theorem dd_X11_refuse_20 : decode mb_X11_refuse 20 = .ok (.iaload, 1) := by decide +kernel
theorem dd_X11_refuse_21 : decode mb_X11_refuse 21 = .ok (.iconst 1, 1) := by decide +kernel
theorem dd_X11_refuse_22 : decode mb_X11_refuse 22 = .ok (.iadd, 1) := by decide +kernel
theorem dd_X11_refuse_23 : decode mb_X11_refuse 23 = .ok (.iastore, 1) := by decide +kernel
theorem dd_X11_refuse_24 : decode mb_X11_refuse 24 = .ok (.iload_n 1, 1) := by decide +kernel
theorem dd_X11_refuse_25 : decode mb_X11_refuse 25 = .ok (.ireturn, 1) := by decide +kernel
theorem dd_X11_rest_0 : decode mb_X11_rest 0 = .ok (.iload_n 1, 1) := by decide +kernel
theorem dd_X11_rest_1 : decode mb_X11_rest 1 = .ok (.iconst (-1), 1) := by decide +kernel
theorem dd_X11_rest_2 : decode mb_X11_rest 2 = .ok (.if_icmp .eq 17, 3) := by decide +kernel
theorem dd_X11_rest_5 : decode mb_X11_rest 5 = .ok (.iload_n 1, 1) := by decide +kernel
theorem dd_X11_rest_6 : decode mb_X11_rest 6 = .ok (.invokestatic 122, 3) := by decide +kernel
theorem dd_X11_rest_9 : decode mb_X11_rest 9 = .ok (.ifCond .ne 10, 3) := by decide +kernel
theorem dd_X11_rest_12 : decode mb_X11_rest 12 = .ok (.aload_n 0, 1) := by decide +kernel
theorem dd_X11_rest_13 : decode mb_X11_rest 13 = .ok (.bipush (-2), 2) := by decide +kernel
theorem dd_X11_rest_15 : decode mb_X11_rest 15 = .ok (.invokevirtual 63, 3) := by decide +kernel
theorem dd_X11_rest_18 : decode mb_X11_rest 18 = .ok (.ireturn, 1) := by decide +kernel
theorem dd_X11_rest_19 : decode mb_X11_rest 19 = .ok (.aload_n 0, 1) := by decide +kernel
theorem dd_X11_rest_20 : decode mb_X11_rest 20 = .ok (.getfield 29, 3) := by decide +kernel
theorem dd_X11_rest_23 : decode mb_X11_rest 23 = .ok (.getfield 113, 3) := by decide +kernel
theorem dd_X11_rest_26 : decode mb_X11_rest 26 = .ok (.iload_n 1, 1) := by decide +kernel
theorem dd_X11_rest_27 : decode mb_X11_rest 27 = .ok (.iconst (-1), 1) := by decide +kernel
theorem dd_X11_rest_28 : decode mb_X11_rest 28 = .ok (.if_icmp .ne 8, 3) := by decide +kernel
theorem dd_X11_rest_31 : decode mb_X11_rest 31 = .ok (.bipush 63, 2) := by decide +kernel
theorem dd_X11_rest_33 : decode mb_X11_rest 33 = .ok (.goto 6, 3) := by decide +kernel
theorem dd_X11_rest_36 : decode mb_X11_rest 36 = .ok (.iconst 1, 1) := by decide +kernel
theorem dd_X11_rest_37 : decode mb_X11_rest 37 = .ok (.iload_n 1, 1) := by decide +kernel
theorem dd_X11_rest_38 : decode mb_X11_rest 38 = .ok (.ishl, 1) := by decide +kernel
theorem dd_X11_rest_39 : decode mb_X11_rest 39 = .ok (.invokevirtual 276, 3) := by decide +kernel
theorem dd_X11_rest_42 : decode mb_X11_rest 42 = .ok (.ireturn, 1) := by decide +kernel
theorem dd_X11_row_0 : decode mb_X11_row 0 = .ok (.iload_n 1, 1) := by decide +kernel
theorem dd_X11_row_1 : decode mb_X11_row 1 = .ok (.invokestatic 55, 3) := by decide +kernel
theorem dd_X11_row_4 : decode mb_X11_row 4 = .ok (.ifCond .eq 22, 3) := by decide +kernel
theorem dd_X11_row_7 : decode mb_X11_row 7 = .ok (.iload_n 2, 1) := by decide +kernel
theorem dd_X11_row_8 : decode mb_X11_row 8 = .ok (.iconst 0, 1) := by decide +kernel
theorem dd_X11_row_9 : decode mb_X11_row 9 = .ok (.iconst 4, 1) := by decide +kernel
theorem dd_X11_row_10 : decode mb_X11_row 10 = .ok (.invokestatic 59, 3) := by decide +kernel
theorem dd_X11_row_13 : decode mb_X11_row 13 = .ok (.ifCond .eq 13, 3) := by decide +kernel
theorem dd_X11_row_16 : decode mb_X11_row 16 = .ok (.iload_n 3, 1) := by decide +kernel
theorem dd_X11_row_17 : decode mb_X11_row 17 = .ok (.iconst 0, 1) := by decide +kernel
theorem dd_X11_row_18 : decode mb_X11_row 18 = .ok (.bipush 40, 2) := by decide +kernel
theorem dd_X11_row_20 : decode mb_X11_row 20 = .ok (.invokestatic 59, 3) := by decide +kernel
theorem dd_X11_row_23 : decode mb_X11_row 23 = .ok (.ifCond .ne 10, 3) := by decide +kernel
theorem dd_X11_row_26 : decode mb_X11_row 26 = .ok (.aload_n 0, 1) := by decide +kernel
theorem dd_X11_row_27 : decode mb_X11_row 27 = .ok (.bipush (-2), 2) := by decide +kernel
theorem dd_X11_row_29 : decode mb_X11_row 29 = .ok (.invokevirtual 63, 3) := by decide +kernel
theorem dd_X11_row_32 : decode mb_X11_row 32 = .ok (.ireturn, 1) := by decide +kernel
theorem dd_X11_row_33 : decode mb_X11_row 33 = .ok (.aload_n 0, 1) := by decide +kernel
theorem dd_X11_row_34 : decode mb_X11_row 34 = .ok (.getfield 11, 3) := by decide +kernel
theorem dd_X11_row_37 : decode mb_X11_row 37 = .ok (.iload_n 1, 1) := by decide +kernel
theorem dd_X11_row_38 : decode mb_X11_row 38 = .ok (.aaload, 1) := by decide +kernel
theorem dd_X11_row_39 : decode mb_X11_row 39 = .ok (.iload_n 2, 1) := by decide +kernel
theorem dd_X11_row_40 : decode mb_X11_row 40 = .ok (.iload_n 3, 1) := by decide +kernel
theorem dd_X11_row_41 : decode mb_X11_row 41 = .ok (.invokevirtual 67, 3) := by decide +kernel
theorem dd_X11_row_44 : decode mb_X11_row 44 = .ok (.iconst 1, 1) := by decide +kernel
theorem dd_X11_row_45 : decode mb_X11_row 45 = .ok (.ireturn, 1) := by decide +kernel
theorem dd_X11_same_0 : decode mb_X11_same 0 = .ok (.aload_n 0, 1) := by decide +kernel
theorem dd_X11_same_1 : decode mb_X11_same 1 = .ok (.getfield 29, 3) := by decide +kernel
theorem dd_X11_same_4 : decode mb_X11_same 4 = .ok (.getfield 321, 3) := by decide +kernel
theorem dd_X11_same_7 : decode mb_X11_same 7 = .ok (.iload_n 1, 1) := by decide +kernel
theorem dd_X11_same_8 : decode mb_X11_same 8 = .ok (.invokevirtual 329, 3) := by decide +kernel
theorem dd_X11_same_11 : decode mb_X11_same 11 = .ok (.ifCond .eq 17, 3) := by decide +kernel
theorem dd_X11_same_28 : decode mb_X11_same 28 = .ok (.aload_n 0, 1) := by decide +kernel
theorem dd_X11_same_29 : decode mb_X11_same 29 = .ok (.bipush (-2), 2) := by decide +kernel
theorem dd_X11_same_31 : decode mb_X11_same 31 = .ok (.invokevirtual 63, 3) := by decide +kernel
theorem dd_X11_same_34 : decode mb_X11_same 34 = .ok (.ireturn, 1) := by decide +kernel
theorem dd_X11_says_0 : decode mb_X11_says 0 = .ok (.iload_n 1, 1) := by decide +kernel
theorem dd_X11_says_1 : decode mb_X11_says 1 = .ok (.invokestatic 55, 3) := by decide +kernel
theorem dd_X11_says_4 : decode mb_X11_says 4 = .ok (.ifCond .eq 10, 3) := by decide +kernel
theorem dd_X11_says_7 : decode mb_X11_says 7 = .ok (.iload_n 2, 1) := by decide +kernel
theorem dd_X11_says_8 : decode mb_X11_says 8 = .ok (.invokestatic 122, 3) := by decide +kernel
theorem dd_X11_says_11 : decode mb_X11_says 11 = .ok (.ifCond .ne 10, 3) := by decide +kernel
theorem dd_X11_says_14 : decode mb_X11_says 14 = .ok (.aload_n 0, 1) := by decide +kernel
theorem dd_X11_says_15 : decode mb_X11_says 15 = .ok (.bipush (-2), 2) := by decide +kernel
theorem dd_X11_says_17 : decode mb_X11_says 17 = .ok (.invokevirtual 63, 3) := by decide +kernel
theorem dd_X11_says_20 : decode mb_X11_says 20 = .ok (.ireturn, 1) := by decide +kernel
theorem dd_X11_says_21 : decode mb_X11_says 21 = .ok (.aload_n 0, 1) := by decide +kernel
theorem dd_X11_says_22 : decode mb_X11_says 22 = .ok (.getfield 11, 3) := by decide +kernel
theorem dd_X11_says_25 : decode mb_X11_says 25 = .ok (.iload_n 1, 1) := by decide +kernel
theorem dd_X11_says_26 : decode mb_X11_says 26 = .ok (.aaload, 1) := by decide +kernel
theorem dd_X11_says_27 : decode mb_X11_says 27 = .ok (.astore_n 3, 1) := by decide +kernel
theorem dd_X11_says_28 : decode mb_X11_says 28 = .ok (.aload_n 3, 1) := by decide +kernel
theorem dd_X11_says_29 : decode mb_X11_says 29 = .ok (.invokevirtual 92, 3) := by decide +kernel
theorem dd_X11_says_32 : decode mb_X11_says 32 = .ok (.ifCond .eq 10, 3) := by decide +kernel
theorem dd_X11_says_35 : decode mb_X11_says 35 = .ok (.aload_n 0, 1) := by decide +kernel
theorem dd_X11_says_36 : decode mb_X11_says 36 = .ok (.bipush (-4), 2) := by decide +kernel
theorem dd_X11_says_38 : decode mb_X11_says 38 = .ok (.invokevirtual 63, 3) := by decide +kernel
theorem dd_X11_says_41 : decode mb_X11_says 41 = .ok (.ireturn, 1) := by decide +kernel
theorem dd_X11_secret_0 : decode mb_X11_secret 0 = .ok (.aload_n 0, 1) := by decide +kernel
theorem dd_X11_secret_1 : decode mb_X11_secret 1 = .ok (.getfield 29, 3) := by decide +kernel
theorem dd_X11_secret_4 : decode mb_X11_secret 4 = .ok (.getfield 113, 3) := by decide +kernel
theorem dd_X11_secret_7 : decode mb_X11_secret 7 = .ok (.iload_n 1, 1) := by decide +kernel
theorem dd_X11_secret_8 : decode mb_X11_secret 8 = .ok (.invokevirtual 117, 3) := by decide +kernel
theorem dd_X11_secret_11 : decode mb_X11_secret 11 = .ok (.ifCond .eq 10, 3) := by decide +kernel
theorem dd_X11_secret_21 : decode mb_X11_secret 21 = .ok (.aload_n 0, 1) := by decide +kernel
theorem dd_X11_secret_22 : decode mb_X11_secret 22 = .ok (.bipush (-2), 2) := by decide +kernel
theorem dd_X11_secret_24 : decode mb_X11_secret 24 = .ok (.invokevirtual 63, 3) := by decide +kernel
theorem dd_X11_secret_27 : decode mb_X11_secret 27 = .ok (.ireturn, 1) := by decide +kernel
theorem dd_X11_set_0 : decode mb_X11_set 0 = .ok (.aload_n 0, 1) := by decide +kernel
theorem dd_X11_set_1 : decode mb_X11_set 1 = .ok (.iload_n 1, 1) := by decide +kernel
theorem dd_X11_set_2 : decode mb_X11_set 2 = .ok (.invokevirtual 71, 3) := by decide +kernel
theorem dd_X11_set_5 : decode mb_X11_set 5 = .ok (.istore 5, 2) := by decide +kernel
theorem dd_X11_set_7 : decode mb_X11_set 7 = .ok (.iload 5, 2) := by decide +kernel
theorem dd_X11_set_9 : decode mb_X11_set 9 = .ok (.ifCond .eq 10, 3) := by decide +kernel
theorem dd_X11_set_12 : decode mb_X11_set 12 = .ok (.aload_n 0, 1) := by decide +kernel
theorem dd_X11_set_13 : decode mb_X11_set 13 = .ok (.iload 5, 2) := by decide +kernel
theorem dd_X11_set_15 : decode mb_X11_set 15 = .ok (.invokevirtual 63, 3) := by decide +kernel
theorem dd_X11_set_18 : decode mb_X11_set 18 = .ok (.ireturn, 1) := by decide +kernel
theorem dd_X11_shelvesInUse_0 : decode mb_X11_shelvesInUse 0 = .ok (.iconst 0, 1) := by decide +kernel
theorem dd_X11_shelvesInUse_1 : decode mb_X11_shelvesInUse 1 = .ok (.istore_n 1, 1) := by decide +kernel
theorem dd_X11_shelvesInUse_2 : decode mb_X11_shelvesInUse 2 = .ok (.iconst 0, 1) := by decide +kernel
theorem dd_X11_shelvesInUse_3 : decode mb_X11_shelvesInUse 3 = .ok (.istore_n 2, 1) := by decide +kernel
theorem dd_X11_shelvesInUse_4 : decode mb_X11_shelvesInUse 4 = .ok (.iload_n 2, 1) := by decide +kernel
theorem dd_X11_shelvesInUse_5 : decode mb_X11_shelvesInUse 5 = .ok (.bipush 8, 2) := by decide +kernel
theorem dd_X11_shelvesInUse_7 : decode mb_X11_shelvesInUse 7 = .ok (.if_icmp .ge 24, 3) := by decide +kernel
theorem dd_X11_shelvesInUse_10 : decode mb_X11_shelvesInUse 10 = .ok (.aload_n 0, 1) := by decide +kernel
theorem dd_X11_shelvesInUse_11 : decode mb_X11_shelvesInUse 11 = .ok (.getfield 11, 3) := by decide +kernel
theorem dd_X11_shelvesInUse_14 : decode mb_X11_shelvesInUse 14 = .ok (.iload_n 2, 1) := by decide +kernel
theorem dd_X11_shelvesInUse_15 : decode mb_X11_shelvesInUse 15 = .ok (.aaload, 1) := by decide +kernel
theorem dd_X11_shelvesInUse_16 : decode mb_X11_shelvesInUse 16 = .ok (.invokevirtual 92, 3) := by decide +kernel
theorem dd_X11_shelvesInUse_19 : decode mb_X11_shelvesInUse 19 = .ok (.ifCond .ne 6, 3) := by decide +kernel
theorem dd_X11_shelvesInUse_25 : decode mb_X11_shelvesInUse 25 = .ok (.iinc 2 1, 3) := by decide +kernel
theorem dd_X11_shelvesInUse_28 : decode mb_X11_shelvesInUse 28 = .ok (.goto (-24), 3) := by decide +kernel
theorem dd_X11_shelvesInUse_31 : decode mb_X11_shelvesInUse 31 = .ok (.iload_n 1, 1) := by decide +kernel
theorem dd_X11_shelvesInUse_32 : decode mb_X11_shelvesInUse 32 = .ok (.ireturn, 1) := by decide +kernel
theorem dd_X11_shortBy_0 : decode mb_X11_shortBy 0 = .ok (.iload_n 1, 1) := by decide +kernel
theorem dd_X11_shortBy_1 : decode mb_X11_shortBy 1 = .ok (.iconst 1, 1) := by decide +kernel
theorem dd_X11_shortBy_2 : decode mb_X11_shortBy 2 = .ok (.sipush 9999, 3) := by decide +kernel
theorem dd_X11_shortBy_5 : decode mb_X11_shortBy 5 = .ok (.invokestatic 59, 3) := by decide +kernel
theorem dd_X11_shortBy_8 : decode mb_X11_shortBy 8 = .ok (.ifCond .ne 10, 3) := by decide +kernel
theorem dd_X11_shortBy_11 : decode mb_X11_shortBy 11 = .ok (.aload_n 0, 1) := by decide +kernel
theorem dd_X11_shortBy_12 : decode mb_X11_shortBy 12 = .ok (.bipush (-2), 2) := by decide +kernel
theorem dd_X11_shortBy_14 : decode mb_X11_shortBy 14 = .ok (.invokevirtual 63, 3) := by decide +kernel
theorem dd_X11_shortBy_17 : decode mb_X11_shortBy 17 = .ok (.ireturn, 1) := by decide +kernel
theorem dd_X11_shortBy_18 : decode mb_X11_shortBy 18 = .ok (.aload_n 0, 1) := by decide +kernel
theorem dd_X11_shortBy_19 : decode mb_X11_shortBy 19 = .ok (.getfield 46, 3) := by decide +kernel
theorem dd_X11_shortBy_22 : decode mb_X11_shortBy 22 = .ok (.aload_n 0, 1) := by decide +kernel
theorem dd_X11_shortBy_23 : decode mb_X11_shortBy 23 = .ok (.getfield 29, 3) := by decide +kernel
theorem dd_X11_shortBy_26 : decode mb_X11_shortBy 26 = .ok (.getfield 113, 3) := by decide +kernel
theorem dd_X11_shortBy_29 : decode mb_X11_shortBy 29 = .ok (.iload_n 1, 1) := by decide +kernel
theorem dd_X11_shortBy_30 : decode mb_X11_shortBy 30 = .ok (.invokevirtual 359, 3) := by decide +kernel
theorem dd_X11_shortBy_33 : decode mb_X11_shortBy 33 = .ok (.ireturn, 1) := by decide +kernel
theorem dd_X11_show_0 : decode mb_X11_show 0 = .ok (.iload_n 1, 1) := by decide +kernel
theorem dd_X11_show_1 : decode mb_X11_show 1 = .ok (.invokestatic 55, 3) := by decide +kernel
theorem dd_X11_show_4 : decode mb_X11_show 4 = .ok (.ifCond .eq 22, 3) := by decide +kernel
theorem dd_X11_show_7 : decode mb_X11_show 7 = .ok (.iload_n 2, 1) := by decide +kernel
theorem dd_X11_show_8 : decode mb_X11_show 8 = .ok (.iconst (-1), 1) := by decide +kernel
theorem dd_X11_show_9 : decode mb_X11_show 9 = .ok (.if_icmp .eq 24, 3) := by decide +kernel
theorem dd_X11_show_12 : decode mb_X11_show 12 = .ok (.aload_n 0, 1) := by decide +kernel
theorem dd_X11_show_13 : decode mb_X11_show 13 = .ok (.getfield 29, 3) := by decide +kernel
theorem dd_X11_show_16 : decode mb_X11_show 16 = .ok (.getfield 113, 3) := by decide +kernel
theorem dd_X11_show_19 : decode mb_X11_show 19 = .ok (.iload_n 2, 1) := by decide +kernel
theorem dd_X11_show_20 : decode mb_X11_show 20 = .ok (.invokevirtual 117, 3) := by decide +kernel
theorem dd_X11_show_23 : decode mb_X11_show 23 = .ok (.ifCond .ne 10, 3) := by decide +kernel
theorem dd_X11_show_26 : decode mb_X11_show 26 = .ok (.aload_n 0, 1) := by decide +kernel
theorem dd_X11_show_27 : decode mb_X11_show 27 = .ok (.bipush (-2), 2) := by decide +kernel
theorem dd_X11_show_29 : decode mb_X11_show 29 = .ok (.invokevirtual 63, 3) := by decide +kernel
theorem dd_X11_show_32 : decode mb_X11_show 32 = .ok (.ireturn, 1) := by decide +kernel
theorem dd_X11_show_33 : decode mb_X11_show 33 = .ok (.aload_n 0, 1) := by decide +kernel
theorem dd_X11_show_34 : decode mb_X11_show 34 = .ok (.getfield 11, 3) := by decide +kernel
theorem dd_X11_show_37 : decode mb_X11_show 37 = .ok (.iload_n 1, 1) := by decide +kernel
theorem dd_X11_show_38 : decode mb_X11_show 38 = .ok (.aaload, 1) := by decide +kernel
theorem dd_X11_show_39 : decode mb_X11_show 39 = .ok (.iload_n 2, 1) := by decide +kernel
theorem dd_X11_show_40 : decode mb_X11_show 40 = .ok (.iconst (-1), 1) := by decide +kernel
theorem dd_X11_show_41 : decode mb_X11_show 41 = .ok (.if_icmp .ne 7, 3) := by decide +kernel
theorem dd_X11_show_44 : decode mb_X11_show 44 = .ok (.iconst (-1), 1) := by decide +kernel
theorem dd_X11_show_45 : decode mb_X11_show 45 = .ok (.goto 7, 3) := by decide +kernel
theorem dd_X11_show_52 : decode mb_X11_show 52 = .ok (.putfield 89, 3) := by decide +kernel
theorem dd_X11_show_55 : decode mb_X11_show 55 = .ok (.iconst 1, 1) := by decide +kernel
theorem dd_X11_show_56 : decode mb_X11_show 56 = .ok (.ireturn, 1) := by decide +kernel
theorem dd_X11_shown_0 : decode mb_X11_shown 0 = .ok (.iload_n 1, 1) := by decide +kernel
theorem dd_X11_shown_1 : decode mb_X11_shown 1 = .ok (.iconst 0, 1) := by decide +kernel
theorem dd_X11_shown_2 : decode mb_X11_shown 2 = .ok (.sipush 200, 3) := by decide +kernel
theorem dd_X11_shown_5 : decode mb_X11_shown 5 = .ok (.invokestatic 59, 3) := by decide +kernel
theorem dd_X11_shown_8 : decode mb_X11_shown 8 = .ok (.ifCond .ne 10, 3) := by decide +kernel
theorem dd_X11_shown_11 : decode mb_X11_shown 11 = .ok (.aload_n 0, 1) := by decide +kernel
theorem dd_X11_shown_12 : decode mb_X11_shown 12 = .ok (.bipush (-2), 2) := by decide +kernel
theorem dd_X11_shown_14 : decode mb_X11_shown 14 = .ok (.invokevirtual 63, 3) := by decide +kernel
theorem dd_X11_shown_17 : decode mb_X11_shown 17 = .ok (.ireturn, 1) := by decide +kernel
theorem dd_X11_shown_18 : decode mb_X11_shown 18 = .ok (.aload_n 0, 1) := by decide +kernel
theorem dd_X11_shown_19 : decode mb_X11_shown 19 = .ok (.getfield 46, 3) := by decide +kernel
theorem dd_X11_shown_22 : decode mb_X11_shown 22 = .ok (.aload_n 0, 1) := by decide +kernel
theorem dd_X11_shown_23 : decode mb_X11_shown 23 = .ok (.getfield 29, 3) := by decide +kernel
theorem dd_X11_shown_26 : decode mb_X11_shown 26 = .ok (.getfield 113, 3) := by decide +kernel
theorem dd_X11_shown_29 : decode mb_X11_shown 29 = .ok (.iload_n 1, 1) := by decide +kernel
theorem dd_X11_shown_30 : decode mb_X11_shown 30 = .ok (.invokevirtual 299, 3) := by decide +kernel
theorem dd_X11_shown_33 : decode mb_X11_shown 33 = .ok (.ireturn, 1) := by decide +kernel
theorem dd_X11_sight_0 : decode mb_X11_sight 0 = .ok (.iload_n 1, 1) := by decide +kernel
theorem dd_X11_sight_1 : decode mb_X11_sight 1 = .ok (.iconst 0, 1) := by decide +kernel
theorem dd_X11_sight_2 : decode mb_X11_sight 2 = .ok (.bipush 99, 2) := by decide +kernel
theorem dd_X11_sight_4 : decode mb_X11_sight 4 = .ok (.invokestatic 59, 3) := by decide +kernel
theorem dd_X11_sight_7 : decode mb_X11_sight 7 = .ok (.ifCond .eq 29, 3) := by decide +kernel
theorem dd_X11_sight_10 : decode mb_X11_sight 10 = .ok (.iload_n 2, 1) := by decide +kernel
theorem dd_X11_sight_11 : decode mb_X11_sight 11 = .ok (.iconst 0, 1) := by decide +kernel
theorem dd_X11_sight_12 : decode mb_X11_sight 12 = .ok (.sipush 255, 3) := by decide +kernel
theorem dd_X11_sight_15 : decode mb_X11_sight 15 = .ok (.invokestatic 59, 3) := by decide +kernel
theorem dd_X11_sight_18 : decode mb_X11_sight 18 = .ok (.ifCond .eq 18, 3) := by decide +kernel
theorem dd_X11_sight_21 : decode mb_X11_sight 21 = .ok (.iload_n 3, 1) := by decide +kernel
theorem dd_X11_sight_22 : decode mb_X11_sight 22 = .ok (.invokestatic 318, 3) := by decide +kernel
theorem dd_X11_sight_25 : decode mb_X11_sight 25 = .ok (.ifCond .eq 11, 3) := by decide +kernel
theorem dd_X11_sight_28 : decode mb_X11_sight 28 = .ok (.iload 4, 2) := by decide +kernel
theorem dd_X11_sight_30 : decode mb_X11_sight 30 = .ok (.invokestatic 318, 3) := by decide +kernel
theorem dd_X11_sight_33 : decode mb_X11_sight 33 = .ok (.ifCond .ne 10, 3) := by decide +kernel
theorem dd_X11_sight_36 : decode mb_X11_sight 36 = .ok (.aload_n 0, 1) := by decide +kernel
theorem dd_X11_sight_37 : decode mb_X11_sight 37 = .ok (.bipush (-2), 2) := by decide +kernel
theorem dd_X11_sight_39 : decode mb_X11_sight 39 = .ok (.invokevirtual 63, 3) := by decide +kernel
theorem dd_X11_sight_42 : decode mb_X11_sight 42 = .ok (.ireturn, 1) := by decide +kernel
theorem dd_X11_sight_43 : decode mb_X11_sight 43 = .ok (.aload_n 0, 1) := by decide +kernel
theorem dd_X11_sight_44 : decode mb_X11_sight 44 = .ok (.getfield 29, 3) := by decide +kernel
theorem dd_X11_sight_47 : decode mb_X11_sight 47 = .ok (.getfield 321, 3) := by decide +kernel
theorem dd_X11_sight_50 : decode mb_X11_sight 50 = .ok (.getfield 325, 3) := by decide +kernel
theorem dd_X11_sight_53 : decode mb_X11_sight 53 = .ok (.bipush 20, 2) := by decide +kernel
theorem dd_X11_sight_55 : decode mb_X11_sight 55 = .ok (.if_icmp .lt 10, 3) := by decide +kernel
theorem dd_X11_sight_65 : decode mb_X11_sight 65 = .ok (.aload_n 0, 1) := by decide +kernel
theorem dd_X11_sight_66 : decode mb_X11_sight 66 = .ok (.getfield 29, 3) := by decide +kernel
theorem dd_X11_sight_69 : decode mb_X11_sight 69 = .ok (.getfield 321, 3) := by decide +kernel
theorem dd_X11_sight_72 : decode mb_X11_sight 72 = .ok (.iload_n 1, 1) := by decide +kernel
theorem dd_X11_sight_73 : decode mb_X11_sight 73 = .ok (.iload_n 2, 1) := by decide +kernel
theorem dd_X11_sight_74 : decode mb_X11_sight 74 = .ok (.iload_n 3, 1) := by decide +kernel
theorem dd_X11_sight_75 : decode mb_X11_sight 75 = .ok (.iload 4, 2) := by decide +kernel
theorem dd_X11_sight_77 : decode mb_X11_sight 77 = .ok (.invokevirtual 328, 3) := by decide +kernel
theorem dd_X11_sight_80 : decode mb_X11_sight 80 = .ok (.ireturn, 1) := by decide +kernel
theorem dd_X11_status_0 : decode mb_X11_status 0 = .ok (.iload_n 1, 1) := by decide +kernel
theorem dd_X11_status_1 : decode mb_X11_status 1 = .ok (.tableswitch 138 0 8 #[51, 62, 73, 84, 95, 103, 114, 125, 133], 51) := by decide +kernel
theorem dd_X11_status_52 : decode mb_X11_status 52 = .ok (.aload_n 0, 1) := by decide +kernel
theorem dd_X11_status_53 : decode mb_X11_status 53 = .ok (.getfield 29, 3) := by decide +kernel
theorem dd_X11_status_56 : decode mb_X11_status 56 = .ok (.getfield 113, 3) := by decide +kernel
theorem dd_X11_status_59 : decode mb_X11_status 59 = .ok (.getfield 132, 3) := by decide +kernel
theorem dd_X11_status_62 : decode mb_X11_status 62 = .ok (.ireturn, 1) := by decide +kernel
theorem dd_X11_status_63 : decode mb_X11_status 63 = .ok (.aload_n 0, 1) := by decide +kernel
theorem dd_X11_status_64 : decode mb_X11_status 64 = .ok (.getfield 29, 3) := by decide +kernel
theorem dd_X11_status_67 : decode mb_X11_status 67 = .ok (.getfield 168, 3) := by decide +kernel
theorem dd_X11_status_70 : decode mb_X11_status 70 = .ok (.getfield 172, 3) := by decide +kernel
theorem dd_X11_status_73 : decode mb_X11_status 73 = .ok (.ireturn, 1) := by decide +kernel
theorem dd_X11_status_74 : decode mb_X11_status 74 = .ok (.aload_n 0, 1) := by decide +kernel
theorem dd_X11_status_75 : decode mb_X11_status 75 = .ok (.getfield 29, 3) := by decide +kernel
theorem dd_X11_status_78 : decode mb_X11_status 78 = .ok (.getfield 178, 3) := by decide +kernel
theorem dd_X11_status_81 : decode mb_X11_status 81 = .ok (.getfield 192, 3) := by decide +kernel
theorem dd_X11_status_84 : decode mb_X11_status 84 = .ok (.ireturn, 1) := by decide +kernel
theorem dd_X11_status_85 : decode mb_X11_status 85 = .ok (.aload_n 0, 1) := by decide +kernel
theorem dd_X11_status_86 : decode mb_X11_status 86 = .ok (.getfield 29, 3) := by decide +kernel
theorem dd_X11_status_89 : decode mb_X11_status 89 = .ok (.getfield 219, 3) := by decide +kernel
theorem dd_X11_status_92 : decode mb_X11_status 92 = .ok (.getfield 223, 3) := by decide +kernel
theorem dd_X11_status_95 : decode mb_X11_status 95 = .ok (.ireturn, 1) := by decide +kernel
theorem dd_X11_status_96 : decode mb_X11_status 96 = .ok (.aload_n 0, 1) := by decide +kernel
theorem dd_X11_status_97 : decode mb_X11_status 97 = .ok (.getfield 29, 3) := by decide +kernel
theorem dd_X11_status_100 : decode mb_X11_status 100 = .ok (.getfield 303, 3) := by decide +kernel
theorem dd_X11_status_103 : decode mb_X11_status 103 = .ok (.ireturn, 1) := by decide +kernel
theorem dd_X11_status_104 : decode mb_X11_status 104 = .ok (.aload_n 0, 1) := by decide +kernel
theorem dd_X11_status_105 : decode mb_X11_status 105 = .ok (.getfield 29, 3) := by decide +kernel
theorem dd_X11_status_108 : decode mb_X11_status 108 = .ok (.getfield 321, 3) := by decide +kernel
theorem dd_X11_status_111 : decode mb_X11_status 111 = .ok (.getfield 325, 3) := by decide +kernel
theorem dd_X11_status_114 : decode mb_X11_status 114 = .ok (.ireturn, 1) := by decide +kernel
theorem dd_X11_status_115 : decode mb_X11_status 115 = .ok (.aload_n 0, 1) := by decide +kernel
theorem dd_X11_status_116 : decode mb_X11_status 116 = .ok (.getfield 29, 3) := by decide +kernel
theorem dd_X11_status_119 : decode mb_X11_status 119 = .ok (.getfield 342, 3) := by decide +kernel
theorem dd_X11_status_122 : decode mb_X11_status 122 = .ok (.getfield 346, 3) := by decide +kernel
theorem dd_X11_status_125 : decode mb_X11_status 125 = .ok (.ireturn, 1) := by decide +kernel
theorem dd_X11_status_126 : decode mb_X11_status 126 = .ok (.aload_n 0, 1) := by decide +kernel
theorem dd_X11_status_127 : decode mb_X11_status 127 = .ok (.getfield 22, 3) := by decide +kernel
theorem dd_X11_status_130 : decode mb_X11_status 130 = .ok (.getfield 188, 3) := by decide +kernel
theorem dd_X11_status_133 : decode mb_X11_status 133 = .ok (.ireturn, 1) := by decide +kernel
theorem dd_X11_status_134 : decode mb_X11_status 134 = .ok (.aload_n 0, 1) := by decide +kernel
theorem dd_X11_status_135 : decode mb_X11_status 135 = .ok (.invokevirtual 372, 3) := by decide +kernel
theorem dd_X11_status_138 : decode mb_X11_status 138 = .ok (.ireturn, 1) := by decide +kernel
theorem dd_X11_status_139 : decode mb_X11_status 139 = .ok (.iload_n 1, 1) := by decide +kernel
theorem dd_X11_status_140 : decode mb_X11_status 140 = .ok (.bipush 12, 2) := by decide +kernel
theorem dd_X11_status_142 : decode mb_X11_status 142 = .ok (.bipush 16, 2) := by decide +kernel
theorem dd_X11_status_144 : decode mb_X11_status 144 = .ok (.invokestatic 59, 3) := by decide +kernel
theorem dd_X11_status_147 : decode mb_X11_status 147 = .ok (.ifCond .eq 15, 3) := by decide +kernel
theorem dd_X11_status_150 : decode mb_X11_status 150 = .ok (.aload_n 0, 1) := by decide +kernel
theorem dd_X11_status_151 : decode mb_X11_status 151 = .ok (.getfield 15, 3) := by decide +kernel
theorem dd_X11_status_154 : decode mb_X11_status 154 = .ok (.iload_n 1, 1) := by decide +kernel
theorem dd_X11_status_155 : decode mb_X11_status 155 = .ok (.bipush 12, 2) := by decide +kernel
theorem dd_X11_status_157 : decode mb_X11_status 157 = .ok (.isub, 1) := by decide +kernel
theorem dd_X11_status_158 : decode mb_X11_status 158 = .ok (.iaload, 1) := by decide +kernel
theorem dd_X11_status_159 : decode mb_X11_status 159 = .ok (.goto 4, 3) := by decide +kernel
theorem dd_X11_status_162 : decode mb_X11_status 162 = .ok (.iconst (-1), 1) := by decide +kernel
theorem dd_X11_status_163 : decode mb_X11_status 163 = .ok (.ireturn, 1) := by decide +kernel
theorem dd_X11_table_0 : decode mb_X11_table 0 = .ok (.iload_n 1, 1) := by decide +kernel
theorem dd_X11_table_1 : decode mb_X11_table 1 = .ok (.invokestatic 165, 3) := by decide +kernel
theorem dd_X11_table_4 : decode mb_X11_table 4 = .ok (.ifCond .ne 10, 3) := by decide +kernel
theorem dd_X11_table_7 : decode mb_X11_table 7 = .ok (.aload_n 0, 1) := by decide +kernel
theorem dd_X11_table_8 : decode mb_X11_table 8 = .ok (.bipush (-2), 2) := by decide +kernel
theorem dd_X11_table_10 : decode mb_X11_table 10 = .ok (.invokevirtual 63, 3) := by decide +kernel
theorem dd_X11_table_13 : decode mb_X11_table 13 = .ok (.ireturn, 1) := by decide +kernel
theorem dd_X11_table_14 : decode mb_X11_table 14 = .ok (.aload_n 0, 1) := by decide +kernel
theorem dd_X11_table_15 : decode mb_X11_table 15 = .ok (.getfield 29, 3) := by decide +kernel
theorem dd_X11_table_18 : decode mb_X11_table 18 = .ok (.getfield 303, 3) := by decide +kernel
theorem dd_X11_table_21 : decode mb_X11_table 21 = .ok (.iconst 5, 1) := by decide +kernel
theorem dd_X11_table_22 : decode mb_X11_table 22 = .ok (.if_icmp .lt 10, 3) := by decide +kernel
theorem dd_X11_table_32 : decode mb_X11_table 32 = .ok (.aload_n 0, 1) := by decide +kernel
theorem dd_X11_table_33 : decode mb_X11_table 33 = .ok (.getfield 29, 3) := by decide +kernel
theorem dd_X11_table_36 : decode mb_X11_table 36 = .ok (.getfield 306, 3) := by decide +kernel
theorem dd_X11_table_39 : decode mb_X11_table 39 = .ok (.aload_n 0, 1) := by decide +kernel
theorem dd_X11_table_40 : decode mb_X11_table 40 = .ok (.getfield 29, 3) := by decide +kernel
theorem dd_X11_table_43 : decode mb_X11_table 43 = .ok (.getfield 303, 3) := by decide +kernel
theorem dd_X11_table_46 : decode mb_X11_table 46 = .ok (.iload_n 1, 1) := by decide +kernel
theorem dd_X11_table_47 : decode mb_X11_table 47 = .ok (.iastore, 1) := by decide +kernel
theorem dd_X11_table_48 : decode mb_X11_table 48 = .ok (.aload_n 0, 1) := by decide +kernel
theorem dd_X11_table_49 : decode mb_X11_table 49 = .ok (.getfield 29, 3) := by decide +kernel
theorem dd_X11_table_52 : decode mb_X11_table 52 = .ok (.dup, 1) := by decide +kernel
theorem dd_X11_table_53 : decode mb_X11_table 53 = .ok (.getfield 303, 3) := by decide +kernel
theorem dd_X11_table_56 : decode mb_X11_table 56 = .ok (.iconst 1, 1) := by decide +kernel
theorem dd_X11_table_57 : decode mb_X11_table 57 = .ok (.iadd, 1) := by decide +kernel
theorem dd_X11_table_58 : decode mb_X11_table 58 = .ok (.putfield 303, 3) := by decide +kernel
theorem dd_X11_table_61 : decode mb_X11_table 61 = .ok (.aload_n 0, 1) := by decide +kernel
theorem dd_X11_table_62 : decode mb_X11_table 62 = .ok (.getfield 29, 3) := by decide +kernel
theorem dd_X11_table_65 : decode mb_X11_table 65 = .ok (.getfield 303, 3) := by decide +kernel
theorem dd_X11_table_68 : decode mb_X11_table 68 = .ok (.iconst 1, 1) := by decide +kernel
theorem dd_X11_table_69 : decode mb_X11_table 69 = .ok (.isub, 1) := by decide +kernel
theorem dd_X11_table_70 : decode mb_X11_table 70 = .ok (.ireturn, 1) := by decide +kernel
theorem dd_X11_takes_0 : decode mb_X11_takes 0 = .ok (.aload_n 0, 1) := by decide +kernel
theorem dd_X11_takes_1 : decode mb_X11_takes 1 = .ok (.getfield 29, 3) := by decide +kernel
theorem dd_X11_takes_4 : decode mb_X11_takes 4 = .ok (.getfield 219, 3) := by decide +kernel
theorem dd_X11_takes_7 : decode mb_X11_takes 7 = .ok (.iload_n 1, 1) := by decide +kernel
theorem dd_X11_takes_8 : decode mb_X11_takes 8 = .ok (.invokevirtual 229, 3) := by decide +kernel
theorem dd_X11_takes_11 : decode mb_X11_takes 11 = .ok (.ifCond .eq 10, 3) := by decide +kernel
theorem dd_X11_takes_21 : decode mb_X11_takes 21 = .ok (.aload_n 0, 1) := by decide +kernel
theorem dd_X11_takes_22 : decode mb_X11_takes 22 = .ok (.bipush (-2), 2) := by decide +kernel
theorem dd_X11_takes_24 : decode mb_X11_takes 24 = .ok (.invokevirtual 63, 3) := by decide +kernel
theorem dd_X11_takes_27 : decode mb_X11_takes 27 = .ok (.ireturn, 1) := by decide +kernel
theorem dd_X11_takings_0 : decode mb_X11_takings 0 = .ok (.iload_n 1, 1) := by decide +kernel
theorem dd_X11_takings_1 : decode mb_X11_takings 1 = .ok (.iconst 0, 1) := by decide +kernel
theorem dd_X11_takings_2 : decode mb_X11_takings 2 = .ok (.bipush 12, 2) := by decide +kernel
theorem dd_X11_takings_4 : decode mb_X11_takings 4 = .ok (.invokestatic 59, 3) := by decide +kernel
theorem dd_X11_takings_7 : decode mb_X11_takings 7 = .ok (.ifCond .eq 13, 3) := by decide +kernel
theorem dd_X11_takings_10 : decode mb_X11_takings 10 = .ok (.iload_n 2, 1) := by decide +kernel
theorem dd_X11_takings_11 : decode mb_X11_takings 11 = .ok (.iconst 0, 1) := by decide +kernel
theorem dd_X11_takings_12 : decode mb_X11_takings 12 = .ok (.bipush 12, 2) := by decide +kernel
theorem dd_X11_takings_14 : decode mb_X11_takings 14 = .ok (.invokestatic 59, 3) := by decide +kernel
theorem dd_X11_takings_17 : decode mb_X11_takings 17 = .ok (.ifCond .ne 10, 3) := by decide +kernel
theorem dd_X11_takings_20 : decode mb_X11_takings 20 = .ok (.aload_n 0, 1) := by decide +kernel
theorem dd_X11_takings_21 : decode mb_X11_takings 21 = .ok (.bipush (-2), 2) := by decide +kernel
theorem dd_X11_takings_23 : decode mb_X11_takings 23 = .ok (.invokevirtual 63, 3) := by decide +kernel
theorem dd_X11_takings_26 : decode mb_X11_takings 26 = .ok (.ireturn, 1) := by decide +kernel
theorem dd_X11_takings_27 : decode mb_X11_takings 27 = .ok (.aload_n 0, 1) := by decide +kernel
theorem dd_X11_takings_28 : decode mb_X11_takings 28 = .ok (.getfield 39, 3) := by decide +kernel
theorem dd_X11_takings_31 : decode mb_X11_takings 31 = .ok (.aload_n 0, 1) := by decide +kernel
theorem dd_X11_takings_32 : decode mb_X11_takings 32 = .ok (.getfield 29, 3) := by decide +kernel
theorem dd_X11_takings_35 : decode mb_X11_takings 35 = .ok (.iload_n 1, 1) := by decide +kernel
theorem dd_X11_takings_36 : decode mb_X11_takings 36 = .ok (.iload_n 2, 1) := by decide +kernel
theorem dd_X11_takings_37 : decode mb_X11_takings 37 = .ok (.invokevirtual 265, 3) := by decide +kernel
theorem dd_X11_takings_40 : decode mb_X11_takings 40 = .ok (.ireturn, 1) := by decide +kernel
theorem dd_X11_thing_0 : decode mb_X11_thing 0 = .ok (.iload_n 1, 1) := by decide +kernel
theorem dd_X11_thing_1 : decode mb_X11_thing 1 = .ok (.invokestatic 122, 3) := by decide +kernel
theorem dd_X11_thing_4 : decode mb_X11_thing 4 = .ok (.ifCond .eq 25, 3) := by decide +kernel
theorem dd_X11_thing_7 : decode mb_X11_thing 7 = .ok (.iload_n 2, 1) := by decide +kernel
theorem dd_X11_thing_8 : decode mb_X11_thing 8 = .ok (.iconst 0, 1) := by decide +kernel
theorem dd_X11_thing_9 : decode mb_X11_thing 9 = .ok (.sipush 999, 3) := by decide +kernel
theorem dd_X11_thing_12 : decode mb_X11_thing 12 = .ok (.invokestatic 59, 3) := by decide +kernel
theorem dd_X11_thing_15 : decode mb_X11_thing 15 = .ok (.ifCond .eq 14, 3) := by decide +kernel
theorem dd_X11_thing_18 : decode mb_X11_thing 18 = .ok (.iload_n 3, 1) := by decide +kernel
theorem dd_X11_thing_19 : decode mb_X11_thing 19 = .ok (.iconst 0, 1) := by decide +kernel
theorem dd_X11_thing_20 : decode mb_X11_thing 20 = .ok (.sipush 255, 3) := by decide +kernel
theorem dd_X11_thing_23 : decode mb_X11_thing 23 = .ok (.invokestatic 59, 3) := by decide +kernel
theorem dd_X11_thing_26 : decode mb_X11_thing 26 = .ok (.ifCond .ne 10, 3) := by decide +kernel
theorem dd_X11_thing_29 : decode mb_X11_thing 29 = .ok (.aload_n 0, 1) := by decide +kernel
theorem dd_X11_thing_30 : decode mb_X11_thing 30 = .ok (.bipush (-2), 2) := by decide +kernel
theorem dd_X11_thing_32 : decode mb_X11_thing 32 = .ok (.invokevirtual 63, 3) := by decide +kernel
theorem dd_X11_thing_35 : decode mb_X11_thing 35 = .ok (.ireturn, 1) := by decide +kernel
theorem dd_X11_thing_36 : decode mb_X11_thing 36 = .ok (.aload_n 0, 1) := by decide +kernel
theorem dd_X11_thing_37 : decode mb_X11_thing 37 = .ok (.getfield 29, 3) := by decide +kernel
theorem dd_X11_thing_40 : decode mb_X11_thing 40 = .ok (.getfield 113, 3) := by decide +kernel
theorem dd_X11_thing_43 : decode mb_X11_thing 43 = .ok (.getfield 132, 3) := by decide +kernel
theorem dd_X11_thing_46 : decode mb_X11_thing 46 = .ok (.bipush 30, 2) := by decide +kernel
theorem dd_X11_thing_48 : decode mb_X11_thing 48 = .ok (.if_icmp .lt 10, 3) := by decide +kernel
theorem dd_X11_thing_58 : decode mb_X11_thing 58 = .ok (.aload_n 0, 1) := by decide +kernel
theorem dd_X11_thing_59 : decode mb_X11_thing 59 = .ok (.getfield 29, 3) := by decide +kernel
theorem dd_X11_thing_62 : decode mb_X11_thing 62 = .ok (.getfield 113, 3) := by decide +kernel
theorem dd_X11_thing_65 : decode mb_X11_thing 65 = .ok (.iload_n 1, 1) := by decide +kernel
theorem dd_X11_thing_66 : decode mb_X11_thing 66 = .ok (.iload_n 2, 1) := by decide +kernel
theorem dd_X11_thing_67 : decode mb_X11_thing 67 = .ok (.iload_n 3, 1) := by decide +kernel
theorem dd_X11_thing_68 : decode mb_X11_thing 68 = .ok (.invokevirtual 135, 3) := by decide +kernel
theorem dd_X11_thing_71 : decode mb_X11_thing 71 = .ok (.ireturn, 1) := by decide +kernel
theorem dd_X11_thingOf_0 : decode mb_X11_thingOf 0 = .ok (.aload_n 0, 1) := by decide +kernel
theorem dd_X11_thingOf_1 : decode mb_X11_thingOf 1 = .ok (.getfield 29, 3) := by decide +kernel
theorem dd_X11_thingOf_4 : decode mb_X11_thingOf 4 = .ok (.getfield 113, 3) := by decide +kernel
theorem dd_X11_thingOf_7 : decode mb_X11_thingOf 7 = .ok (.iload_n 1, 1) := by decide +kernel
theorem dd_X11_thingOf_8 : decode mb_X11_thingOf 8 = .ok (.invokevirtual 117, 3) := by decide +kernel
theorem dd_X11_thingOf_11 : decode mb_X11_thingOf 11 = .ok (.ifCond .ne 10, 3) := by decide +kernel
theorem dd_X11_thingOf_14 : decode mb_X11_thingOf 14 = .ok (.aload_n 0, 1) := by decide +kernel
theorem dd_X11_thingOf_15 : decode mb_X11_thingOf 15 = .ok (.bipush (-2), 2) := by decide +kernel
theorem dd_X11_thingOf_17 : decode mb_X11_thingOf 17 = .ok (.invokevirtual 63, 3) := by decide +kernel
theorem dd_X11_thingOf_20 : decode mb_X11_thingOf 20 = .ok (.ireturn, 1) := by decide +kernel
theorem dd_X11_things_0 : decode mb_X11_things 0 = .ok (.iload_n 1, 1) := by decide +kernel
theorem dd_X11_things_1 : decode mb_X11_things 1 = .ok (.invokestatic 55, 3) := by decide +kernel
theorem dd_X11_things_4 : decode mb_X11_things 4 = .ok (.ifCond .eq 10, 3) := by decide +kernel
theorem dd_X11_things_7 : decode mb_X11_things 7 = .ok (.iload_n 2, 1) := by decide +kernel
theorem dd_X11_things_8 : decode mb_X11_things 8 = .ok (.invokestatic 122, 3) := by decide +kernel
theorem dd_X11_things_11 : decode mb_X11_things 11 = .ok (.ifCond .ne 10, 3) := by decide +kernel
theorem dd_X11_things_14 : decode mb_X11_things 14 = .ok (.aload_n 0, 1) := by decide +kernel
theorem dd_X11_things_15 : decode mb_X11_things 15 = .ok (.bipush (-2), 2) := by decide +kernel
theorem dd_X11_things_17 : decode mb_X11_things 17 = .ok (.invokevirtual 63, 3) := by decide +kernel
theorem dd_X11_things_20 : decode mb_X11_things 20 = .ok (.ireturn, 1) := by decide +kernel
theorem dd_X11_things_21 : decode mb_X11_things 21 = .ok (.aload_n 0, 1) := by decide +kernel
theorem dd_X11_things_22 : decode mb_X11_things 22 = .ok (.iload_n 1, 1) := by decide +kernel
theorem dd_X11_things_23 : decode mb_X11_things 23 = .ok (.invokevirtual 71, 3) := by decide +kernel
theorem dd_X11_things_26 : decode mb_X11_things 26 = .ok (.istore 4, 2) := by decide +kernel
theorem dd_X11_things_28 : decode mb_X11_things 28 = .ok (.iload 4, 2) := by decide +kernel
theorem dd_X11_things_30 : decode mb_X11_things 30 = .ok (.ifCond .eq 10, 3) := by decide +kernel
theorem dd_X11_things_33 : decode mb_X11_things 33 = .ok (.aload_n 0, 1) := by decide +kernel
theorem dd_X11_things_34 : decode mb_X11_things 34 = .ok (.iload 4, 2) := by decide +kernel
theorem dd_X11_things_36 : decode mb_X11_things 36 = .ok (.invokevirtual 63, 3) := by decide +kernel
theorem dd_X11_things_39 : decode mb_X11_things 39 = .ok (.ireturn, 1) := by decide +kernel
theorem dd_X11_thinks_0 : decode mb_X11_thinks 0 = .ok (.aload_n 0, 1) := by decide +kernel
theorem dd_X11_thinks_1 : decode mb_X11_thinks 1 = .ok (.getfield 29, 3) := by decide +kernel
theorem dd_X11_thinks_4 : decode mb_X11_thinks 4 = .ok (.getfield 168, 3) := by decide +kernel
theorem dd_X11_thinks_7 : decode mb_X11_thinks 7 = .ok (.iload_n 1, 1) := by decide +kernel
theorem dd_X11_thinks_8 : decode mb_X11_thinks 8 = .ok (.invokevirtual 177, 3) := by decide +kernel
theorem dd_X11_thinks_11 : decode mb_X11_thinks 11 = .ok (.ifCond .eq 17, 3) := by decide +kernel
theorem dd_X11_thinks_28 : decode mb_X11_thinks 28 = .ok (.aload_n 0, 1) := by decide +kernel
theorem dd_X11_thinks_29 : decode mb_X11_thinks 29 = .ok (.bipush (-2), 2) := by decide +kernel
theorem dd_X11_thinks_31 : decode mb_X11_thinks 31 = .ok (.invokevirtual 63, 3) := by decide +kernel
theorem dd_X11_thinks_34 : decode mb_X11_thinks 34 = .ok (.ireturn, 1) := by decide +kernel
theorem dd_X11_turn_0 : decode mb_X11_turn 0 = .ok (.iload_n 1, 1) := by decide +kernel
theorem dd_X11_turn_1 : decode mb_X11_turn 1 = .ok (.iconst 0, 1) := by decide +kernel
theorem dd_X11_turn_2 : decode mb_X11_turn 2 = .ok (.iconst 1, 1) := by decide +kernel
theorem dd_X11_turn_3 : decode mb_X11_turn 3 = .ok (.invokestatic 59, 3) := by decide +kernel
theorem dd_X11_turn_6 : decode mb_X11_turn 6 = .ok (.ifCond .eq 13, 3) := by decide +kernel
theorem dd_X11_turn_9 : decode mb_X11_turn 9 = .ok (.iload_n 2, 1) := by decide +kernel
theorem dd_X11_turn_10 : decode mb_X11_turn 10 = .ok (.iconst 0, 1) := by decide +kernel
theorem dd_X11_turn_11 : decode mb_X11_turn 11 = .ok (.bipush 12, 2) := by decide +kernel
theorem dd_X11_turn_13 : decode mb_X11_turn 13 = .ok (.invokestatic 59, 3) := by decide +kernel
theorem dd_X11_turn_16 : decode mb_X11_turn 16 = .ok (.ifCond .ne 10, 3) := by decide +kernel
theorem dd_X11_turn_19 : decode mb_X11_turn 19 = .ok (.aload_n 0, 1) := by decide +kernel
theorem dd_X11_turn_20 : decode mb_X11_turn 20 = .ok (.bipush (-2), 2) := by decide +kernel
theorem dd_X11_turn_22 : decode mb_X11_turn 22 = .ok (.invokevirtual 63, 3) := by decide +kernel
theorem dd_X11_turn_25 : decode mb_X11_turn 25 = .ok (.ireturn, 1) := by decide +kernel
theorem dd_X11_turn_26 : decode mb_X11_turn 26 = .ok (.iload_n 1, 1) := by decide +kernel
theorem dd_X11_turn_27 : decode mb_X11_turn 27 = .ok (.ifCond .ne 13, 3) := by decide +kernel
theorem dd_X11_turn_30 : decode mb_X11_turn 30 = .ok (.aload_n 0, 1) := by decide +kernel
theorem dd_X11_turn_31 : decode mb_X11_turn 31 = .ok (.getfield 29, 3) := by decide +kernel
theorem dd_X11_turn_34 : decode mb_X11_turn 34 = .ok (.getfield 245, 3) := by decide +kernel
theorem dd_X11_turn_37 : decode mb_X11_turn 37 = .ok (.goto 10, 3) := by decide +kernel
theorem dd_X11_turn_40 : decode mb_X11_turn 40 = .ok (.aload_n 0, 1) := by decide +kernel
theorem dd_X11_turn_41 : decode mb_X11_turn 41 = .ok (.getfield 29, 3) := by decide +kernel
theorem dd_X11_turn_44 : decode mb_X11_turn 44 = .ok (.getfield 248, 3) := by decide +kernel
theorem dd_X11_turn_47 : decode mb_X11_turn 47 = .ok (.istore_n 3, 1) := by decide +kernel
theorem dd_X11_turn_48 : decode mb_X11_turn 48 = .ok (.iload_n 1, 1) := by decide +kernel
theorem dd_X11_turn_49 : decode mb_X11_turn 49 = .ok (.ifCond .ne 14, 3) := by decide +kernel
theorem dd_X11_turn_52 : decode mb_X11_turn 52 = .ok (.aload_n 0, 1) := by decide +kernel
theorem dd_X11_turn_53 : decode mb_X11_turn 53 = .ok (.getfield 29, 3) := by decide +kernel
theorem dd_X11_turn_56 : decode mb_X11_turn 56 = .ok (.iload_n 2, 1) := by decide +kernel
theorem dd_X11_turn_57 : decode mb_X11_turn 57 = .ok (.putfield 245, 3) := by decide +kernel
theorem dd_X11_turn_60 : decode mb_X11_turn 60 = .ok (.goto 11, 3) := by decide +kernel
theorem dd_X11_turn_63 : decode mb_X11_turn 63 = .ok (.aload_n 0, 1) := by decide +kernel
theorem dd_X11_turn_64 : decode mb_X11_turn 64 = .ok (.getfield 29, 3) := by decide +kernel
theorem dd_X11_turn_67 : decode mb_X11_turn 67 = .ok (.iload_n 2, 1) := by decide +kernel
theorem dd_X11_turn_68 : decode mb_X11_turn 68 = .ok (.putfield 248, 3) := by decide +kernel
theorem dd_X11_turn_71 : decode mb_X11_turn 71 = .ok (.iload_n 3, 1) := by decide +kernel
theorem dd_X11_turn_72 : decode mb_X11_turn 72 = .ok (.ireturn, 1) := by decide +kernel
theorem dd_X11_vases_0 : decode mb_X11_vases 0 = .ok (.aload_n 0, 1) := by decide +kernel
theorem dd_X11_vases_1 : decode mb_X11_vases 1 = .ok (.getfield 29, 3) := by decide +kernel
theorem dd_X11_vases_4 : decode mb_X11_vases 4 = .ok (.getfield 321, 3) := by decide +kernel
theorem dd_X11_vases_7 : decode mb_X11_vases 7 = .ok (.invokevirtual 333, 3) := by decide +kernel
theorem dd_X11_vases_10 : decode mb_X11_vases 10 = .ok (.ireturn, 1) := by decide +kernel
theorem dd_X11_who_0 : decode mb_X11_who 0 = .ok (.iload_n 1, 1) := by decide +kernel
theorem dd_X11_who_1 : decode mb_X11_who 1 = .ok (.iconst (-1), 1) := by decide +kernel
theorem dd_X11_who_2 : decode mb_X11_who 2 = .ok (.if_icmp .eq 27, 3) := by decide +kernel
theorem dd_X11_who_5 : decode mb_X11_who 5 = .ok (.iload_n 1, 1) := by decide +kernel
theorem dd_X11_who_6 : decode mb_X11_who 6 = .ok (.iconst 0, 1) := by decide +kernel
theorem dd_X11_who_7 : decode mb_X11_who 7 = .ok (.aload_n 0, 1) := by decide +kernel
theorem dd_X11_who_8 : decode mb_X11_who 8 = .ok (.getfield 29, 3) := by decide +kernel
theorem dd_X11_who_11 : decode mb_X11_who 11 = .ok (.getfield 303, 3) := by decide +kernel
theorem dd_X11_who_14 : decode mb_X11_who 14 = .ok (.iconst 1, 1) := by decide +kernel
theorem dd_X11_who_15 : decode mb_X11_who 15 = .ok (.isub, 1) := by decide +kernel
theorem dd_X11_who_16 : decode mb_X11_who 16 = .ok (.invokestatic 59, 3) := by decide +kernel
theorem dd_X11_who_19 : decode mb_X11_who 19 = .ok (.ifCond .ne 10, 3) := by decide +kernel
theorem dd_X11_who_22 : decode mb_X11_who 22 = .ok (.aload_n 0, 1) := by decide +kernel
theorem dd_X11_who_23 : decode mb_X11_who 23 = .ok (.bipush (-2), 2) := by decide +kernel
theorem dd_X11_who_25 : decode mb_X11_who 25 = .ok (.invokevirtual 63, 3) := by decide +kernel
theorem dd_X11_who_28 : decode mb_X11_who 28 = .ok (.ireturn, 1) := by decide +kernel
theorem dd_X11_who_29 : decode mb_X11_who 29 = .ok (.aload_n 0, 1) := by decide +kernel
theorem dd_X11_who_30 : decode mb_X11_who 30 = .ok (.getfield 29, 3) := by decide +kernel
theorem dd_X11_who_33 : decode mb_X11_who 33 = .ok (.getfield 303, 3) := by decide +kernel
theorem dd_X11_who_36 : decode mb_X11_who 36 = .ok (.aload_n 0, 1) := by decide +kernel
theorem dd_X11_who_37 : decode mb_X11_who 37 = .ok (.getfield 29, 3) := by decide +kernel
theorem dd_X11_who_40 : decode mb_X11_who 40 = .ok (.getfield 168, 3) := by decide +kernel
theorem dd_X11_who_43 : decode mb_X11_who 43 = .ok (.getfield 172, 3) := by decide +kernel
theorem dd_X11_who_46 : decode mb_X11_who 46 = .ok (.if_icmp .le 10, 3) := by decide +kernel
theorem dd_X11_who_56 : decode mb_X11_who 56 = .ok (.aload_n 0, 1) := by decide +kernel
theorem dd_X11_who_57 : decode mb_X11_who 57 = .ok (.getfield 29, 3) := by decide +kernel
theorem dd_X11_who_60 : decode mb_X11_who 60 = .ok (.invokevirtual 309, 3) := by decide +kernel
theorem dd_X11_who_63 : decode mb_X11_who 63 = .ok (.iload_n 1, 1) := by decide +kernel
theorem dd_X11_who_64 : decode mb_X11_who 64 = .ok (.iconst (-1), 1) := by decide +kernel
theorem dd_X11_who_65 : decode mb_X11_who 65 = .ok (.if_icmp .ne 15, 3) := by decide +kernel
theorem dd_X11_who_68 : decode mb_X11_who 68 = .ok (.aload_n 0, 1) := by decide +kernel
theorem dd_X11_who_69 : decode mb_X11_who 69 = .ok (.getfield 29, 3) := by decide +kernel
theorem dd_X11_who_72 : decode mb_X11_who 72 = .ok (.getfield 312, 3) := by decide +kernel
theorem dd_X11_who_75 : decode mb_X11_who 75 = .ok (.iconst 0, 1) := by decide +kernel
theorem dd_X11_who_76 : decode mb_X11_who 76 = .ok (.iaload, 1) := by decide +kernel
theorem dd_X11_who_77 : decode mb_X11_who 77 = .ok (.goto 11, 3) := by decide +kernel
theorem dd_X11_who_88 : decode mb_X11_who 88 = .ok (.ireturn, 1) := by decide +kernel
theorem dd_X11_wipe_0 : decode mb_X11_wipe 0 = .ok (.aload_n 0, 1) := by decide +kernel
theorem dd_X11_wipe_1 : decode mb_X11_wipe 1 = .ok (.getfield 22, 3) := by decide +kernel
theorem dd_X11_wipe_4 : decode mb_X11_wipe 4 = .ok (.getfield 188, 3) := by decide +kernel
theorem dd_X11_wipe_7 : decode mb_X11_wipe 7 = .ok (.istore_n 1, 1) := by decide +kernel
theorem dd_X11_wipe_8 : decode mb_X11_wipe 8 = .ok (.aload_n 0, 1) := by decide +kernel
theorem dd_X11_wipe_9 : decode mb_X11_wipe 9 = .ok (.getfield 22, 3) := by decide +kernel
theorem dd_X11_wipe_12 : decode mb_X11_wipe 12 = .ok (.iconst 0, 1) := by decide +kernel
theorem dd_X11_wipe_13 : decode mb_X11_wipe 13 = .ok (.putfield 188, 3) := by decide +kernel
theorem dd_X11_wipe_16 : decode mb_X11_wipe 16 = .ok (.iload_n 1, 1) := by decide +kernel
theorem dd_X11_wipe_17 : decode mb_X11_wipe 17 = .ok (.ireturn, 1) := by decide +kernel
theorem dd_X11_within_0 : decode mb_X11_within 0 = .ok (.iload_n 0, 1) := by decide +kernel
theorem dd_X11_within_1 : decode mb_X11_within 1 = .ok (.iload_n 1, 1) := by decide +kernel
theorem dd_X11_within_2 : decode mb_X11_within 2 = .ok (.if_icmp .lt 12, 3) := by decide +kernel
theorem dd_X11_within_5 : decode mb_X11_within 5 = .ok (.iload_n 0, 1) := by decide +kernel
theorem dd_X11_within_6 : decode mb_X11_within 6 = .ok (.iload_n 2, 1) := by decide +kernel
theorem dd_X11_within_7 : decode mb_X11_within 7 = .ok (.if_icmp .gt 7, 3) := by decide +kernel
theorem dd_X11_within_10 : decode mb_X11_within 10 = .ok (.iconst 1, 1) := by decide +kernel
theorem dd_X11_within_11 : decode mb_X11_within 11 = .ok (.goto 4, 3) := by decide +kernel
theorem dd_X11_within_14 : decode mb_X11_within 14 = .ok (.iconst 0, 1) := by decide +kernel
theorem dd_X11_within_15 : decode mb_X11_within 15 = .ok (.ireturn, 1) := by decide +kernel
theorem dd_X12_areKinds_0 : decode mb_X12_areKinds 0 = .ok (.iload_n 1, 1) := by decide +kernel
theorem dd_X12_areKinds_1 : decode mb_X12_areKinds 1 = .ok (.ifCond .lt 13, 3) := by decide +kernel
theorem dd_X12_areKinds_4 : decode mb_X12_areKinds 4 = .ok (.iload_n 1, 1) := by decide +kernel
theorem dd_X12_areKinds_5 : decode mb_X12_areKinds 5 = .ok (.bipush 64, 2) := by decide +kernel
theorem dd_X12_areKinds_7 : decode mb_X12_areKinds 7 = .ok (.if_icmp .ge 7, 3) := by decide +kernel
theorem dd_X12_areKinds_10 : decode mb_X12_areKinds 10 = .ok (.iconst 1, 1) := by decide +kernel
theorem dd_X12_areKinds_11 : decode mb_X12_areKinds 11 = .ok (.goto 4, 3) := by decide +kernel
theorem dd_X12_areKinds_14 : decode mb_X12_areKinds 14 = .ok (.iconst 0, 1) := by decide +kernel
theorem dd_X12_areKinds_15 : decode mb_X12_areKinds 15 = .ok (.ireturn, 1) := by decide +kernel
theorem dd_X12_asNow_0 : decode mb_X12_asNow 0 = .ok (.iconst 0, 1) := by decide +kernel
theorem dd_X12_asNow_1 : decode mb_X12_asNow 1 = .ok (.istore_n 1, 1) := by decide +kernel
theorem dd_X12_asNow_2 : decode mb_X12_asNow 2 = .ok (.iload_n 1, 1) := by decide +kernel
theorem dd_X12_asNow_3 : decode mb_X12_asNow 3 = .ok (.aload_n 0, 1) := by decide +kernel
theorem dd_X12_asNow_4 : decode mb_X12_asNow 4 = .ok (.getfield 135, 3) := by decide +kernel
theorem dd_X12_asNow_7 : decode mb_X12_asNow 7 = .ok (.if_icmp .ge 29, 3) := by decide +kernel
theorem dd_X12_asNow_36 : decode mb_X12_asNow 36 = .ok (.iconst 0, 1) := by decide +kernel
theorem dd_X12_asNow_37 : decode mb_X12_asNow 37 = .ok (.istore_n 1, 1) := by decide +kernel
theorem dd_X12_asNow_38 : decode mb_X12_asNow 38 = .ok (.iload_n 1, 1) := by decide +kernel
theorem dd_X12_asNow_39 : decode mb_X12_asNow 39 = .ok (.aload_n 0, 1) := by decide +kernel
theorem dd_X12_asNow_40 : decode mb_X12_asNow 40 = .ok (.getfield 145, 3) := by decide +kernel
theorem dd_X12_asNow_43 : decode mb_X12_asNow 43 = .ok (.if_icmp .ge 21, 3) := by decide +kernel
theorem dd_X12_asNow_64 : decode mb_X12_asNow 64 = .ok (.return_, 1) := by decide +kernel
theorem dd_X12_back_0 : decode mb_X12_back 0 = .ok (.aload_n 0, 1) := by decide +kernel
theorem dd_X12_back_1 : decode mb_X12_back 1 = .ok (.getfield 310, 3) := by decide +kernel
theorem dd_X12_back_4 : decode mb_X12_back 4 = .ok (.ifCond .ne 10, 3) := by decide +kernel
theorem dd_X12_back_7 : decode mb_X12_back 7 = .ok (.aload_n 0, 1) := by decide +kernel
theorem dd_X12_back_8 : decode mb_X12_back 8 = .ok (.bipush (-5), 2) := by decide +kernel
theorem dd_X12_back_10 : decode mb_X12_back 10 = .ok (.invokevirtual 152, 3) := by decide +kernel
theorem dd_X12_back_13 : decode mb_X12_back 13 = .ok (.ireturn, 1) := by decide +kernel
theorem dd_X12_best_0 : decode mb_X12_best 0 = .ok (.iconst 0, 1) := by decide +kernel
theorem dd_X12_best_1 : decode mb_X12_best 1 = .ok (.istore_n 1, 1) := by decide +kernel
theorem dd_X12_best_2 : decode mb_X12_best 2 = .ok (.iconst (-1), 1) := by decide +kernel
theorem dd_X12_best_3 : decode mb_X12_best 3 = .ok (.istore_n 2, 1) := by decide +kernel
theorem dd_X12_best_4 : decode mb_X12_best 4 = .ok (.iconst 0, 1) := by decide +kernel
theorem dd_X12_best_5 : decode mb_X12_best 5 = .ok (.istore_n 3, 1) := by decide +kernel
theorem dd_X12_best_6 : decode mb_X12_best 6 = .ok (.iload_n 3, 1) := by decide +kernel
theorem dd_X12_best_7 : decode mb_X12_best 7 = .ok (.bipush 12, 2) := by decide +kernel
theorem dd_X12_best_9 : decode mb_X12_best 9 = .ok (.if_icmp .gt 51, 3) := by decide +kernel
theorem dd_X12_best_12 : decode mb_X12_best 12 = .ok (.iload_n 3, 1) := by decide +kernel
theorem dd_X12_best_13 : decode mb_X12_best 13 = .ok (.istore 4, 2) := by decide +kernel
theorem dd_X12_best_15 : decode mb_X12_best 15 = .ok (.iload 4, 2) := by decide +kernel
theorem dd_X12_best_17 : decode mb_X12_best 17 = .ok (.bipush 12, 2) := by decide +kernel
theorem dd_X12_best_19 : decode mb_X12_best 19 = .ok (.if_icmp .gt 35, 3) := by decide +kernel
theorem dd_X12_best_22 : decode mb_X12_best 22 = .ok (.aload_n 0, 1) := by decide +kernel
theorem dd_X12_best_23 : decode mb_X12_best 23 = .ok (.iload_n 3, 1) := by decide +kernel
theorem dd_X12_best_24 : decode mb_X12_best 24 = .ok (.iload 4, 2) := by decide +kernel
theorem dd_X12_best_26 : decode mb_X12_best 26 = .ok (.invokevirtual 264, 3) := by decide +kernel
theorem dd_X12_best_29 : decode mb_X12_best 29 = .ok (.istore 5, 2) := by decide +kernel
theorem dd_X12_best_31 : decode mb_X12_best 31 = .ok (.iload 5, 2) := by decide +kernel
theorem dd_X12_best_33 : decode mb_X12_best 33 = .ok (.iload_n 2, 1) := by decide +kernel
theorem dd_X12_best_34 : decode mb_X12_best 34 = .ok (.if_icmp .lt 14, 3) := by decide +kernel
theorem dd_X12_best_37 : decode mb_X12_best 37 = .ok (.iload 5, 2) := by decide +kernel
theorem dd_X12_best_39 : decode mb_X12_best 39 = .ok (.istore_n 2, 1) := by decide +kernel
theorem dd_X12_best_40 : decode mb_X12_best 40 = .ok (.bipush 100, 2) := by decide +kernel
theorem dd_X12_best_42 : decode mb_X12_best 42 = .ok (.iload_n 3, 1) := by decide +kernel
theorem dd_X12_best_43 : decode mb_X12_best 43 = .ok (.imul, 1) := by decide +kernel
theorem dd_X12_best_44 : decode mb_X12_best 44 = .ok (.iload 4, 2) := by decide +kernel
theorem dd_X12_best_46 : decode mb_X12_best 46 = .ok (.iadd, 1) := by decide +kernel
theorem dd_X12_best_47 : decode mb_X12_best 47 = .ok (.istore_n 1, 1) := by decide +kernel
theorem dd_X12_best_48 : decode mb_X12_best 48 = .ok (.iinc 4 1, 3) := by decide +kernel
theorem dd_X12_best_51 : decode mb_X12_best 51 = .ok (.goto (-36), 3) := by decide +kernel
theorem dd_X12_best_54 : decode mb_X12_best 54 = .ok (.iinc 3 1, 3) := by decide +kernel
theorem dd_X12_best_57 : decode mb_X12_best 57 = .ok (.goto (-51), 3) := by decide +kernel
theorem dd_X12_best_60 : decode mb_X12_best 60 = .ok (.iload_n 1, 1) := by decide +kernel
theorem dd_X12_best_61 : decode mb_X12_best 61 = .ok (.ireturn, 1) := by decide +kernel
theorem dd_X12_buyer_0 : decode mb_X12_buyer 0 = .ok (.aload_n 0, 1) := by decide +kernel
theorem dd_X12_buyer_1 : decode mb_X12_buyer 1 = .ok (.iload_n 1, 1) := by decide +kernel
theorem dd_X12_buyer_2 : decode mb_X12_buyer 2 = .ok (.invokevirtual 248, 3) := by decide +kernel
theorem dd_X12_buyer_5 : decode mb_X12_buyer 5 = .ok (.ifCond .eq 35, 3) := by decide +kernel
theorem dd_X12_buyer_8 : decode mb_X12_buyer 8 = .ok (.iload_n 2, 1) := by decide +kernel
theorem dd_X12_buyer_9 : decode mb_X12_buyer 9 = .ok (.ifCond .lt 31, 3) := by decide +kernel
theorem dd_X12_buyer_12 : decode mb_X12_buyer 12 = .ok (.iload_n 2, 1) := by decide +kernel
theorem dd_X12_buyer_13 : decode mb_X12_buyer 13 = .ok (.sipush 9999, 3) := by decide +kernel
theorem dd_X12_buyer_16 : decode mb_X12_buyer 16 = .ok (.if_icmp .gt 24, 3) := by decide +kernel
theorem dd_X12_buyer_19 : decode mb_X12_buyer 19 = .ok (.aload_n 0, 1) := by decide +kernel
theorem dd_X12_buyer_20 : decode mb_X12_buyer 20 = .ok (.iload_n 3, 1) := by decide +kernel
theorem dd_X12_buyer_21 : decode mb_X12_buyer 21 = .ok (.invokevirtual 190, 3) := by decide +kernel
theorem dd_X12_buyer_24 : decode mb_X12_buyer 24 = .ok (.ifCond .eq 16, 3) := by decide +kernel
theorem dd_X12_buyer_27 : decode mb_X12_buyer 27 = .ok (.iload 4, 2) := by decide +kernel
theorem dd_X12_buyer_29 : decode mb_X12_buyer 29 = .ok (.ifCond .lt 11, 3) := by decide +kernel
theorem dd_X12_buyer_32 : decode mb_X12_buyer 32 = .ok (.iload 4, 2) := by decide +kernel
theorem dd_X12_buyer_34 : decode mb_X12_buyer 34 = .ok (.sipush 300, 3) := by decide +kernel
theorem dd_X12_buyer_37 : decode mb_X12_buyer 37 = .ok (.if_icmp .le 10, 3) := by decide +kernel
theorem dd_X12_buyer_40 : decode mb_X12_buyer 40 = .ok (.aload_n 0, 1) := by decide +kernel
theorem dd_X12_buyer_41 : decode mb_X12_buyer 41 = .ok (.bipush (-2), 2) := by decide +kernel
theorem dd_X12_buyer_43 : decode mb_X12_buyer 43 = .ok (.invokevirtual 152, 3) := by decide +kernel
theorem dd_X12_buyer_46 : decode mb_X12_buyer 46 = .ok (.ireturn, 1) := by decide +kernel
theorem dd_X12_buyer_47 : decode mb_X12_buyer 47 = .ok (.aload_n 0, 1) := by decide +kernel
theorem dd_X12_buyer_48 : decode mb_X12_buyer 48 = .ok (.getfield 145, 3) := by decide +kernel
theorem dd_X12_buyer_51 : decode mb_X12_buyer 51 = .ok (.bipush 12, 2) := by decide +kernel
theorem dd_X12_buyer_53 : decode mb_X12_buyer 53 = .ok (.if_icmp .ne 10, 3) := by decide +kernel
theorem dd_X12_buyer_63 : decode mb_X12_buyer 63 = .ok (.aload_n 0, 1) := by decide +kernel
theorem dd_X12_buyer_64 : decode mb_X12_buyer 64 = .ok (.getfield 53, 3) := by decide +kernel
theorem dd_X12_buyer_67 : decode mb_X12_buyer 67 = .ok (.aload_n 0, 1) := by decide +kernel
theorem dd_X12_buyer_68 : decode mb_X12_buyer 68 = .ok (.getfield 145, 3) := by decide +kernel
theorem dd_X12_buyer_71 : decode mb_X12_buyer 71 = .ok (.iload_n 1, 1) := by decide +kernel
theorem dd_X12_buyer_72 : decode mb_X12_buyer 72 = .ok (.iastore, 1) := by decide +kernel
theorem dd_X12_buyer_73 : decode mb_X12_buyer 73 = .ok (.aload_n 0, 1) := by decide +kernel
theorem dd_X12_buyer_74 : decode mb_X12_buyer 74 = .ok (.getfield 56, 3) := by decide +kernel
theorem dd_X12_buyer_77 : decode mb_X12_buyer 77 = .ok (.aload_n 0, 1) := by decide +kernel
theorem dd_X12_buyer_78 : decode mb_X12_buyer 78 = .ok (.getfield 145, 3) := by decide +kernel
theorem dd_X12_buyer_81 : decode mb_X12_buyer 81 = .ok (.iload_n 2, 1) := by decide +kernel
theorem dd_X12_buyer_82 : decode mb_X12_buyer 82 = .ok (.iastore, 1) := by decide +kernel
theorem dd_X12_buyer_83 : decode mb_X12_buyer 83 = .ok (.aload_n 0, 1) := by decide +kernel
theorem dd_X12_buyer_84 : decode mb_X12_buyer 84 = .ok (.getfield 59, 3) := by decide +kernel
theorem dd_X12_buyer_87 : decode mb_X12_buyer 87 = .ok (.aload_n 0, 1) := by decide +kernel
theorem dd_X12_buyer_88 : decode mb_X12_buyer 88 = .ok (.getfield 145, 3) := by decide +kernel
theorem dd_X12_buyer_91 : decode mb_X12_buyer 91 = .ok (.iload_n 3, 1) := by decide +kernel
theorem dd_X12_buyer_92 : decode mb_X12_buyer 92 = .ok (.iastore, 1) := by decide +kernel
theorem dd_X12_buyer_93 : decode mb_X12_buyer 93 = .ok (.aload_n 0, 1) := by decide +kernel
theorem dd_X12_buyer_94 : decode mb_X12_buyer 94 = .ok (.getfield 62, 3) := by decide +kernel
theorem dd_X12_buyer_97 : decode mb_X12_buyer 97 = .ok (.aload_n 0, 1) := by decide +kernel
theorem dd_X12_buyer_98 : decode mb_X12_buyer 98 = .ok (.getfield 145, 3) := by decide +kernel
theorem dd_X12_buyer_101 : decode mb_X12_buyer 101 = .ok (.iload 4, 2) := by decide +kernel
theorem dd_X12_buyer_103 : decode mb_X12_buyer 103 = .ok (.iastore, 1) := by decide +kernel
theorem dd_X12_buyer_104 : decode mb_X12_buyer 104 = .ok (.aload_n 0, 1) := by decide +kernel
theorem dd_X12_buyer_105 : decode mb_X12_buyer 105 = .ok (.getfield 65, 3) := by decide +kernel
theorem dd_X12_buyer_108 : decode mb_X12_buyer 108 = .ok (.aload_n 0, 1) := by decide +kernel
theorem dd_X12_buyer_109 : decode mb_X12_buyer 109 = .ok (.getfield 145, 3) := by decide +kernel
theorem dd_X12_buyer_112 : decode mb_X12_buyer 112 = .ok (.iconst 0, 1) := by decide +kernel
theorem dd_X12_buyer_113 : decode mb_X12_buyer 113 = .ok (.iastore, 1) := by decide +kernel
theorem dd_X12_buyer_114 : decode mb_X12_buyer 114 = .ok (.aload_n 0, 1) := by decide +kernel
theorem dd_X12_buyer_115 : decode mb_X12_buyer 115 = .ok (.dup, 1) := by decide +kernel
theorem dd_X12_buyer_116 : decode mb_X12_buyer 116 = .ok (.getfield 145, 3) := by decide +kernel
theorem dd_X12_buyer_119 : decode mb_X12_buyer 119 = .ok (.dup_x1, 1) := by decide +kernel
theorem dd_X12_buyer_120 : decode mb_X12_buyer 120 = .ok (.iconst 1, 1) := by decide +kernel
theorem dd_X12_buyer_121 : decode mb_X12_buyer 121 = .ok (.iadd, 1) := by decide +kernel
theorem dd_X12_buyer_122 : decode mb_X12_buyer 122 = .ok (.putfield 145, 3) := by decide +kernel
theorem dd_X12_buyer_125 : decode mb_X12_buyer 125 = .ok (.ireturn, 1) := by decide +kernel
theorem dd_X12_buyerOf_0 : decode mb_X12_buyerOf 0 = .ok (.aload_n 0, 1) := by decide +kernel
theorem dd_X12_buyerOf_1 : decode mb_X12_buyerOf 1 = .ok (.iload_n 1, 1) := by decide +kernel
theorem dd_X12_buyerOf_2 : decode mb_X12_buyerOf 2 = .ok (.invokevirtual 251, 3) := by decide +kernel
theorem dd_X12_buyerOf_5 : decode mb_X12_buyerOf 5 = .ok (.ifCond .eq 12, 3) := by decide +kernel
theorem dd_X12_buyerOf_17 : decode mb_X12_buyerOf 17 = .ok (.aload_n 0, 1) := by decide +kernel
theorem dd_X12_buyerOf_18 : decode mb_X12_buyerOf 18 = .ok (.bipush (-2), 2) := by decide +kernel
theorem dd_X12_buyerOf_20 : decode mb_X12_buyerOf 20 = .ok (.invokevirtual 152, 3) := by decide +kernel
theorem dd_X12_buyerOf_23 : decode mb_X12_buyerOf 23 = .ok (.ireturn, 1) := by decide +kernel
theorem dd_X12_chip_0 : decode mb_X12_chip 0 = .ok (.aload_n 0, 1) := by decide +kernel
theorem dd_X12_chip_1 : decode mb_X12_chip 1 = .ok (.iload_n 1, 1) := by decide +kernel
theorem dd_X12_chip_2 : decode mb_X12_chip 2 = .ok (.invokevirtual 165, 3) := by decide +kernel
theorem dd_X12_chip_5 : decode mb_X12_chip 5 = .ok (.ifCond .eq 13, 3) := by decide +kernel
theorem dd_X12_chip_18 : decode mb_X12_chip 18 = .ok (.aload_n 0, 1) := by decide +kernel
theorem dd_X12_chip_19 : decode mb_X12_chip 19 = .ok (.bipush (-2), 2) := by decide +kernel
theorem dd_X12_chip_21 : decode mb_X12_chip 21 = .ok (.invokevirtual 152, 3) := by decide +kernel
theorem dd_X12_chip_24 : decode mb_X12_chip 24 = .ok (.ireturn, 1) := by decide +kernel
theorem dd_X12_copy_0 : decode mb_X12_copy 0 = .ok (.aload_n 0, 1) := by decide +kernel
theorem dd_X12_copy_1 : decode mb_X12_copy 1 = .ok (.iload_n 1, 1) := by decide +kernel
theorem dd_X12_copy_2 : decode mb_X12_copy 2 = .ok (.invokevirtual 148, 3) := by decide +kernel
theorem dd_X12_copy_5 : decode mb_X12_copy 5 = .ok (.ifCond .eq 11, 3) := by decide +kernel
theorem dd_X12_copy_8 : decode mb_X12_copy 8 = .ok (.aload_n 0, 1) := by decide +kernel
theorem dd_X12_copy_9 : decode mb_X12_copy 9 = .ok (.iload_n 2, 1) := by decide +kernel
theorem dd_X12_copy_10 : decode mb_X12_copy 10 = .ok (.invokevirtual 148, 3) := by decide +kernel
theorem dd_X12_copy_13 : decode mb_X12_copy 13 = .ok (.ifCond .ne 10, 3) := by decide +kernel
theorem dd_X12_copy_16 : decode mb_X12_copy 16 = .ok (.aload_n 0, 1) := by decide +kernel
theorem dd_X12_copy_17 : decode mb_X12_copy 17 = .ok (.bipush (-2), 2) := by decide +kernel
theorem dd_X12_copy_19 : decode mb_X12_copy 19 = .ok (.invokevirtual 152, 3) := by decide +kernel
theorem dd_X12_copy_22 : decode mb_X12_copy 22 = .ok (.ireturn, 1) := by decide +kernel
theorem dd_X12_copy_23 : decode mb_X12_copy 23 = .ok (.aload_n 0, 1) := by decide +kernel
theorem dd_X12_copy_24 : decode mb_X12_copy 24 = .ok (.iload_n 1, 1) := by decide +kernel
theorem dd_X12_copy_25 : decode mb_X12_copy 25 = .ok (.invokevirtual 156, 3) := by decide +kernel
theorem dd_X12_copy_28 : decode mb_X12_copy 28 = .ok (.ifCond .ne 42, 3) := by decide +kernel
theorem dd_X12_copy_31 : decode mb_X12_copy 31 = .ok (.aload_n 0, 1) := by decide +kernel
theorem dd_X12_copy_32 : decode mb_X12_copy 32 = .ok (.iload_n 2, 1) := by decide +kernel
theorem dd_X12_copy_33 : decode mb_X12_copy 33 = .ok (.invokevirtual 156, 3) := by decide +kernel
theorem dd_X12_copy_36 : decode mb_X12_copy 36 = .ok (.ifCond .ne 34, 3) := by decide +kernel
theorem dd_X12_copy_39 : decode mb_X12_copy 39 = .ok (.aload_n 0, 1) := by decide +kernel
theorem dd_X12_copy_40 : decode mb_X12_copy 40 = .ok (.iload_n 1, 1) := by decide +kernel
theorem dd_X12_copy_41 : decode mb_X12_copy 41 = .ok (.invokevirtual 162, 3) := by decide +kernel
theorem dd_X12_copy_44 : decode mb_X12_copy 44 = .ok (.ifCond .eq 33, 3) := by decide +kernel
theorem dd_X12_copy_77 : decode mb_X12_copy 77 = .ok (.aload_n 0, 1) := by decide +kernel
theorem dd_X12_copy_78 : decode mb_X12_copy 78 = .ok (.getfield 7, 3) := by decide +kernel
theorem dd_X12_copy_81 : decode mb_X12_copy 81 = .ok (.iload_n 1, 1) := by decide +kernel
theorem dd_X12_copy_82 : decode mb_X12_copy 82 = .ok (.iaload, 1) := by decide +kernel
theorem dd_X12_copy_83 : decode mb_X12_copy 83 = .ok (.ifCond .lt 12, 3) := by decide +kernel
theorem dd_X12_copy_95 : decode mb_X12_copy 95 = .ok (.aload_n 0, 1) := by decide +kernel
theorem dd_X12_copy_96 : decode mb_X12_copy 96 = .ok (.bipush (-4), 2) := by decide +kernel
theorem dd_X12_copy_98 : decode mb_X12_copy 98 = .ok (.invokevirtual 152, 3) := by decide +kernel
theorem dd_X12_copy_101 : decode mb_X12_copy 101 = .ok (.ireturn, 1) := by decide +kernel
theorem dd_X12_costs_0 : decode mb_X12_costs 0 = .ok (.aload_n 0, 1) := by decide +kernel
theorem dd_X12_costs_1 : decode mb_X12_costs 1 = .ok (.iload_n 1, 1) := by decide +kernel
theorem dd_X12_costs_2 : decode mb_X12_costs 2 = .ok (.invokevirtual 165, 3) := by decide +kernel
theorem dd_X12_costs_5 : decode mb_X12_costs 5 = .ok (.ifCond .eq 11, 3) := by decide +kernel
theorem dd_X12_costs_16 : decode mb_X12_costs 16 = .ok (.aload_n 0, 1) := by decide +kernel
theorem dd_X12_costs_17 : decode mb_X12_costs 17 = .ok (.bipush (-2), 2) := by decide +kernel
theorem dd_X12_costs_19 : decode mb_X12_costs 19 = .ok (.invokevirtual 152, 3) := by decide +kernel
theorem dd_X12_costs_22 : decode mb_X12_costs 22 = .ok (.ireturn, 1) := by decide +kernel
theorem dd_X12_day_0 : decode mb_X12_day 0 = .ok (.iload_n 1, 1) := by decide +kernel
theorem dd_X12_day_1 : decode mb_X12_day 1 = .ok (.ifCond .lt 8, 3) := by decide +kernel
theorem dd_X12_day_4 : decode mb_X12_day 4 = .ok (.iload_n 1, 1) := by decide +kernel
theorem dd_X12_day_5 : decode mb_X12_day 5 = .ok (.iconst 3, 1) := by decide +kernel
theorem dd_X12_day_6 : decode mb_X12_day 6 = .ok (.if_icmp .le 10, 3) := by decide +kernel
theorem dd_X12_day_9 : decode mb_X12_day 9 = .ok (.aload_n 0, 1) := by decide +kernel
theorem dd_X12_day_10 : decode mb_X12_day 10 = .ok (.bipush (-2), 2) := by decide +kernel
theorem dd_X12_day_12 : decode mb_X12_day 12 = .ok (.invokevirtual 152, 3) := by decide +kernel
theorem dd_X12_day_15 : decode mb_X12_day 15 = .ok (.ireturn, 1) := by decide +kernel
theorem dd_X12_day_16 : decode mb_X12_day 16 = .ok (.iload_n 1, 1) := by decide +kernel
theorem dd_X12_day_17 : decode mb_X12_day 17 = .ok (.iconst 2, 1) := by decide +kernel
theorem dd_X12_day_18 : decode mb_X12_day 18 = .ok (.if_icmp .ge 12, 3) := by decide +kernel
theorem dd_X12_day_21 : decode mb_X12_day 21 = .ok (.aload_n 0, 1) := by decide +kernel
theorem dd_X12_day_22 : decode mb_X12_day 22 = .ok (.getfield 92, 3) := by decide +kernel
theorem dd_X12_day_25 : decode mb_X12_day 25 = .ok (.iconst 2, 1) := by decide +kernel
theorem dd_X12_day_26 : decode mb_X12_day 26 = .ok (.iload_n 1, 1) := by decide +kernel
theorem dd_X12_day_27 : decode mb_X12_day 27 = .ok (.iadd, 1) := by decide +kernel
theorem dd_X12_day_28 : decode mb_X12_day 28 = .ok (.iaload, 1) := by decide +kernel
theorem dd_X12_day_29 : decode mb_X12_day 29 = .ok (.ireturn, 1) := by decide +kernel
theorem dd_X12_day_30 : decode mb_X12_day 30 = .ok (.iload_n 1, 1) := by decide +kernel
theorem dd_X12_day_31 : decode mb_X12_day 31 = .ok (.iconst 2, 1) := by decide +kernel
theorem dd_X12_day_32 : decode mb_X12_day 32 = .ok (.if_icmp .ne 10, 3) := by decide +kernel
theorem dd_X12_day_35 : decode mb_X12_day 35 = .ok (.aload_n 0, 1) := by decide +kernel
theorem dd_X12_day_36 : decode mb_X12_day 36 = .ok (.invokevirtual 270, 3) := by decide +kernel
theorem dd_X12_day_39 : decode mb_X12_day 39 = .ok (.goto 12, 3) := by decide +kernel
theorem dd_X12_day_42 : decode mb_X12_day 42 = .ok (.aload_n 0, 1) := by decide +kernel
theorem dd_X12_day_43 : decode mb_X12_day 43 = .ok (.getfield 135, 3) := by decide +kernel
theorem dd_X12_day_46 : decode mb_X12_day 46 = .ok (.aload_n 0, 1) := by decide +kernel
theorem dd_X12_day_47 : decode mb_X12_day 47 = .ok (.invokevirtual 270, 3) := by decide +kernel
theorem dd_X12_day_50 : decode mb_X12_day 50 = .ok (.isub, 1) := by decide +kernel
theorem dd_X12_day_51 : decode mb_X12_day 51 = .ok (.ireturn, 1) := by decide +kernel
theorem dd_X12_element_0 : decode mb_X12_element 0 = .ok (.aload_n 0, 1) := by decide +kernel
theorem dd_X12_element_1 : decode mb_X12_element 1 = .ok (.iload_n 1, 1) := by decide +kernel
theorem dd_X12_element_2 : decode mb_X12_element 2 = .ok (.invokevirtual 148, 3) := by decide +kernel
theorem dd_X12_element_5 : decode mb_X12_element 5 = .ok (.ifCond .eq 25, 3) := by decide +kernel
theorem dd_X12_element_8 : decode mb_X12_element 8 = .ok (.aload_n 0, 1) := by decide +kernel
theorem dd_X12_element_9 : decode mb_X12_element 9 = .ok (.iload_n 1, 1) := by decide +kernel
theorem dd_X12_element_10 : decode mb_X12_element 10 = .ok (.invokevirtual 162, 3) := by decide +kernel
theorem dd_X12_element_13 : decode mb_X12_element 13 = .ok (.ifCond .eq 17, 3) := by decide +kernel
theorem dd_X12_element_30 : decode mb_X12_element 30 = .ok (.lconst 0, 1) := by decide +kernel
theorem dd_X12_element_31 : decode mb_X12_element 31 = .ok (.lreturn, 1) := by decide +kernel
theorem dd_X12_feed_0 : decode mb_X12_feed 0 = .ok (.iload_n 2, 1) := by decide +kernel
theorem dd_X12_feed_1 : decode mb_X12_feed 1 = .ok (.iconst 1, 1) := by decide +kernel
theorem dd_X12_feed_2 : decode mb_X12_feed 2 = .ok (.if_icmp .lt 8, 3) := by decide +kernel
theorem dd_X12_feed_5 : decode mb_X12_feed 5 = .ok (.iload_n 2, 1) := by decide +kernel
theorem dd_X12_feed_6 : decode mb_X12_feed 6 = .ok (.iconst 4, 1) := by decide +kernel
theorem dd_X12_feed_7 : decode mb_X12_feed 7 = .ok (.if_icmp .le 10, 3) := by decide +kernel
theorem dd_X12_feed_10 : decode mb_X12_feed 10 = .ok (.aload_n 0, 1) := by decide +kernel
theorem dd_X12_feed_11 : decode mb_X12_feed 11 = .ok (.bipush (-2), 2) := by decide +kernel
theorem dd_X12_feed_13 : decode mb_X12_feed 13 = .ok (.invokevirtual 152, 3) := by decide +kernel
theorem dd_X12_feed_16 : decode mb_X12_feed 16 = .ok (.ireturn, 1) := by decide +kernel
theorem dd_X12_feed_17 : decode mb_X12_feed 17 = .ok (.aload_n 0, 1) := by decide +kernel
theorem dd_X12_feed_18 : decode mb_X12_feed 18 = .ok (.getfield 199, 3) := by decide +kernel
theorem dd_X12_feed_21 : decode mb_X12_feed 21 = .ok (.iload_n 2, 1) := by decide +kernel
theorem dd_X12_feed_22 : decode mb_X12_feed 22 = .ok (.iadd, 1) := by decide +kernel
theorem dd_X12_feed_23 : decode mb_X12_feed 23 = .ok (.bipush 120, 2) := by decide +kernel
theorem dd_X12_feed_25 : decode mb_X12_feed 25 = .ok (.if_icmp .le 10, 3) := by decide +kernel
theorem dd_X12_feed_35 : decode mb_X12_feed 35 = .ok (.iload_n 2, 1) := by decide +kernel
theorem dd_X12_feed_36 : decode mb_X12_feed 36 = .ok (.iconst 1, 1) := by decide +kernel
theorem dd_X12_feed_37 : decode mb_X12_feed 37 = .ok (.isub, 1) := by decide +kernel
theorem dd_X12_feed_38 : decode mb_X12_feed 38 = .ok (.istore_n 3, 1) := by decide +kernel
theorem dd_X12_feed_39 : decode mb_X12_feed 39 = .ok (.iload_n 3, 1) := by decide +kernel
theorem dd_X12_feed_40 : decode mb_X12_feed 40 = .ok (.ifCond .lt 35, 3) := by decide +kernel
theorem dd_X12_feed_43 : decode mb_X12_feed 43 = .ok (.aload_n 0, 1) := by decide +kernel
theorem dd_X12_feed_44 : decode mb_X12_feed 44 = .ok (.getfield 50, 3) := by decide +kernel
theorem dd_X12_feed_47 : decode mb_X12_feed 47 = .ok (.aload_n 0, 1) := by decide +kernel
theorem dd_X12_feed_48 : decode mb_X12_feed 48 = .ok (.dup, 1) := by decide +kernel
theorem dd_X12_feed_49 : decode mb_X12_feed 49 = .ok (.getfield 199, 3) := by decide +kernel
theorem dd_X12_feed_52 : decode mb_X12_feed 52 = .ok (.dup_x1, 1) := by decide +kernel
theorem dd_X12_feed_53 : decode mb_X12_feed 53 = .ok (.iconst 1, 1) := by decide +kernel
theorem dd_X12_feed_54 : decode mb_X12_feed 54 = .ok (.iadd, 1) := by decide +kernel
theorem dd_X12_feed_55 : decode mb_X12_feed 55 = .ok (.putfield 199, 3) := by decide +kernel
theorem dd_X12_feed_58 : decode mb_X12_feed 58 = .ok (.iload_n 1, 1) := by decide +kernel
theorem dd_X12_feed_59 : decode mb_X12_feed 59 = .ok (.bipush 8, 2) := by decide +kernel
theorem dd_X12_feed_61 : decode mb_X12_feed 61 = .ok (.iload_n 3, 1) := by decide +kernel
theorem dd_X12_feed_62 : decode mb_X12_feed 62 = .ok (.imul, 1) := by decide +kernel
theorem dd_X12_feed_63 : decode mb_X12_feed 63 = .ok (.ishr, 1) := by decide +kernel
theorem dd_X12_feed_64 : decode mb_X12_feed 64 = .ok (.sipush 255, 3) := by decide +kernel
theorem dd_X12_feed_67 : decode mb_X12_feed 67 = .ok (.iand, 1) := by decide +kernel
theorem dd_X12_feed_68 : decode mb_X12_feed 68 = .ok (.iastore, 1) := by decide +kernel
theorem dd_X12_feed_69 : decode mb_X12_feed 69 = .ok (.iinc 3 (-1), 3) := by decide +kernel
theorem dd_X12_feed_72 : decode mb_X12_feed 72 = .ok (.goto (-33), 3) := by decide +kernel
theorem dd_X12_feed_75 : decode mb_X12_feed 75 = .ok (.aload_n 0, 1) := by decide +kernel
theorem dd_X12_feed_76 : decode mb_X12_feed 76 = .ok (.getfield 199, 3) := by decide +kernel
theorem dd_X12_feed_79 : decode mb_X12_feed 79 = .ok (.ireturn, 1) := by decide +kernel
theorem dd_X12_go_0 : decode mb_X12_go 0 = .ok (.iload_n 1, 1) := by decide +kernel
theorem dd_X12_go_1 : decode mb_X12_go 1 = .ok (.iconst 1, 1) := by decide +kernel
theorem dd_X12_go_2 : decode mb_X12_go 2 = .ok (.if_icmp .lt 9, 3) := by decide +kernel
theorem dd_X12_go_5 : decode mb_X12_go 5 = .ok (.iload_n 1, 1) := by decide +kernel
theorem dd_X12_go_6 : decode mb_X12_go 6 = .ok (.bipush 12, 2) := by decide +kernel
theorem dd_X12_go_8 : decode mb_X12_go 8 = .ok (.if_icmp .le 10, 3) := by decide +kernel
theorem dd_X12_go_11 : decode mb_X12_go 11 = .ok (.aload_n 0, 1) := by decide +kernel
theorem dd_X12_go_12 : decode mb_X12_go 12 = .ok (.bipush (-2), 2) := by decide +kernel
theorem dd_X12_go_14 : decode mb_X12_go 14 = .ok (.invokevirtual 152, 3) := by decide +kernel
theorem dd_X12_go_17 : decode mb_X12_go 17 = .ok (.ireturn, 1) := by decide +kernel
theorem dd_X12_go_18 : decode mb_X12_go 18 = .ok (.aload_n 0, 1) := by decide +kernel
theorem dd_X12_go_19 : decode mb_X12_go 19 = .ok (.getfield 92, 3) := by decide +kernel
theorem dd_X12_go_22 : decode mb_X12_go 22 = .ok (.iconst 2, 1) := by decide +kernel
theorem dd_X12_go_23 : decode mb_X12_go 23 = .ok (.iaload, 1) := by decide +kernel
theorem dd_X12_go_24 : decode mb_X12_go 24 = .ok (.bipush 12, 2) := by decide +kernel
theorem dd_X12_go_26 : decode mb_X12_go 26 = .ok (.if_icmp .ne 10, 3) := by decide +kernel
theorem dd_X12_go_36 : decode mb_X12_go 36 = .ok (.aload_n 0, 1) := by decide +kernel
theorem dd_X12_go_37 : decode mb_X12_go 37 = .ok (.invokevirtual 258, 3) := by decide +kernel
theorem dd_X12_go_40 : decode mb_X12_go 40 = .ok (.iconst 0, 1) := by decide +kernel
theorem dd_X12_go_41 : decode mb_X12_go 41 = .ok (.istore_n 2, 1) := by decide +kernel
theorem dd_X12_go_42 : decode mb_X12_go 42 = .ok (.iconst 0, 1) := by decide +kernel
theorem dd_X12_go_43 : decode mb_X12_go 43 = .ok (.istore_n 3, 1) := by decide +kernel
theorem dd_X12_go_44 : decode mb_X12_go 44 = .ok (.iload_n 3, 1) := by decide +kernel
theorem dd_X12_go_45 : decode mb_X12_go 45 = .ok (.iload_n 1, 1) := by decide +kernel
theorem dd_X12_go_46 : decode mb_X12_go 46 = .ok (.if_icmp .ge 174, 3) := by decide +kernel
theorem dd_X12_go_49 : decode mb_X12_go 49 = .ok (.aload_n 0, 1) := by decide +kernel
theorem dd_X12_go_50 : decode mb_X12_go 50 = .ok (.getfield 92, 3) := by decide +kernel
theorem dd_X12_go_53 : decode mb_X12_go 53 = .ok (.iconst 2, 1) := by decide +kernel
theorem dd_X12_go_54 : decode mb_X12_go 54 = .ok (.iaload, 1) := by decide +kernel
theorem dd_X12_go_55 : decode mb_X12_go 55 = .ok (.bipush 12, 2) := by decide +kernel
theorem dd_X12_go_57 : decode mb_X12_go 57 = .ok (.if_icmp .ge 163, 3) := by decide +kernel
theorem dd_X12_go_60 : decode mb_X12_go 60 = .ok (.aload_n 0, 1) := by decide +kernel
theorem dd_X12_go_61 : decode mb_X12_go 61 = .ok (.getfield 92, 3) := by decide +kernel
theorem dd_X12_go_64 : decode mb_X12_go 64 = .ok (.iconst 2, 1) := by decide +kernel
theorem dd_X12_go_65 : decode mb_X12_go 65 = .ok (.iaload, 1) := by decide +kernel
theorem dd_X12_go_66 : decode mb_X12_go 66 = .ok (.istore 4, 2) := by decide +kernel
theorem dd_X12_go_68 : decode mb_X12_go 68 = .ok (.iconst 0, 1) := by decide +kernel
theorem dd_X12_go_69 : decode mb_X12_go 69 = .ok (.istore 5, 2) := by decide +kernel
theorem dd_X12_go_71 : decode mb_X12_go 71 = .ok (.iload 5, 2) := by decide +kernel
theorem dd_X12_go_73 : decode mb_X12_go 73 = .ok (.aload_n 0, 1) := by decide +kernel
theorem dd_X12_go_74 : decode mb_X12_go 74 = .ok (.getfield 145, 3) := by decide +kernel
theorem dd_X12_go_77 : decode mb_X12_go 77 = .ok (.if_icmp .ge 127, 3) := by decide +kernel
theorem dd_X12_go_204 : decode mb_X12_go 204 = .ok (.aload_n 0, 1) := by decide +kernel
theorem dd_X12_go_205 : decode mb_X12_go 205 = .ok (.getfield 92, 3) := by decide +kernel
theorem dd_X12_go_208 : decode mb_X12_go 208 = .ok (.iconst 2, 1) := by decide +kernel
theorem dd_X12_go_209 : decode mb_X12_go 209 = .ok (.dup2, 1) := by decide +kernel
theorem dd_X12_go_210 : decode mb_X12_go 210 = .ok (.iaload, 1) := by decide +kernel
theorem dd_X12_go_211 : decode mb_X12_go 211 = .ok (.iconst 1, 1) := by decide +kernel
theorem dd_X12_go_212 : decode mb_X12_go 212 = .ok (.iadd, 1) := by decide +kernel
theorem dd_X12_go_213 : decode mb_X12_go 213 = .ok (.iastore, 1) := by decide +kernel
theorem dd_X12_go_214 : decode mb_X12_go 214 = .ok (.iinc 3 1, 3) := by decide +kernel
theorem dd_X12_go_217 : decode mb_X12_go 217 = .ok (.goto (-173), 3) := by decide +kernel
theorem dd_X12_go_220 : decode mb_X12_go 220 = .ok (.aload_n 0, 1) := by decide +kernel
theorem dd_X12_go_221 : decode mb_X12_go 221 = .ok (.getfield 92, 3) := by decide +kernel
theorem dd_X12_go_224 : decode mb_X12_go 224 = .ok (.iconst 3, 1) := by decide +kernel
theorem dd_X12_go_225 : decode mb_X12_go 225 = .ok (.dup2, 1) := by decide +kernel
theorem dd_X12_go_226 : decode mb_X12_go 226 = .ok (.iaload, 1) := by decide +kernel
theorem dd_X12_go_227 : decode mb_X12_go 227 = .ok (.iload_n 2, 1) := by decide +kernel
theorem dd_X12_go_228 : decode mb_X12_go 228 = .ok (.iadd, 1) := by decide +kernel
theorem dd_X12_go_229 : decode mb_X12_go 229 = .ok (.iastore, 1) := by decide +kernel
theorem dd_X12_go_230 : decode mb_X12_go 230 = .ok (.iload_n 2, 1) := by decide +kernel
theorem dd_X12_go_231 : decode mb_X12_go 231 = .ok (.ireturn, 1) := by decide +kernel
theorem dd_X12_goes_0 : decode mb_X12_goes 0 = .ok (.aload_n 0, 1) := by decide +kernel
theorem dd_X12_goes_1 : decode mb_X12_goes 1 = .ok (.iload_n 1, 1) := by decide +kernel
theorem dd_X12_goes_2 : decode mb_X12_goes 2 = .ok (.invokevirtual 193, 3) := by decide +kernel
theorem dd_X12_goes_5 : decode mb_X12_goes 5 = .ok (.ifCond .eq 16, 3) := by decide +kernel
theorem dd_X12_goes_21 : decode mb_X12_goes 21 = .ok (.aload_n 0, 1) := by decide +kernel
theorem dd_X12_goes_22 : decode mb_X12_goes 22 = .ok (.bipush (-2), 2) := by decide +kernel
theorem dd_X12_goes_24 : decode mb_X12_goes 24 = .ok (.invokevirtual 152, 3) := by decide +kernel
theorem dd_X12_goes_27 : decode mb_X12_goes 27 = .ok (.ireturn, 1) := by decide +kernel
theorem dd_X12_hall_0 : decode mb_X12_hall 0 = .ok (.iload_n 1, 1) := by decide +kernel
theorem dd_X12_hall_1 : decode mb_X12_hall 1 = .ok (.ifCond .lt 16, 3) := by decide +kernel
theorem dd_X12_hall_4 : decode mb_X12_hall 4 = .ok (.iload_n 1, 1) := by decide +kernel
theorem dd_X12_hall_5 : decode mb_X12_hall 5 = .ok (.iconst 2, 1) := by decide +kernel
theorem dd_X12_hall_6 : decode mb_X12_hall 6 = .ok (.if_icmp .gt 11, 3) := by decide +kernel
theorem dd_X12_hall_9 : decode mb_X12_hall 9 = .ok (.aload_n 0, 1) := by decide +kernel
theorem dd_X12_hall_10 : decode mb_X12_hall 10 = .ok (.iload_n 2, 1) := by decide +kernel
theorem dd_X12_hall_11 : decode mb_X12_hall 11 = .ok (.invokevirtual 165, 3) := by decide +kernel
theorem dd_X12_hall_14 : decode mb_X12_hall 14 = .ok (.ifCond .ne 10, 3) := by decide +kernel
theorem dd_X12_hall_17 : decode mb_X12_hall 17 = .ok (.aload_n 0, 1) := by decide +kernel
theorem dd_X12_hall_18 : decode mb_X12_hall 18 = .ok (.bipush (-2), 2) := by decide +kernel
theorem dd_X12_hall_20 : decode mb_X12_hall 20 = .ok (.invokevirtual 152, 3) := by decide +kernel
theorem dd_X12_hall_23 : decode mb_X12_hall 23 = .ok (.ireturn, 1) := by decide +kernel
theorem dd_X12_holds_0 : decode mb_X12_holds 0 = .ok (.aload_n 0, 1) := by decide +kernel
theorem dd_X12_holds_1 : decode mb_X12_holds 1 = .ok (.iload_n 1, 1) := by decide +kernel
theorem dd_X12_holds_2 : decode mb_X12_holds 2 = .ok (.invokevirtual 148, 3) := by decide +kernel
theorem dd_X12_holds_5 : decode mb_X12_holds 5 = .ok (.ifCond .eq 12, 3) := by decide +kernel
theorem dd_X12_holds_8 : decode mb_X12_holds 8 = .ok (.aload_n 0, 1) := by decide +kernel
theorem dd_X12_holds_9 : decode mb_X12_holds 9 = .ok (.getfield 7, 3) := by decide +kernel
theorem dd_X12_holds_12 : decode mb_X12_holds 12 = .ok (.iload_n 1, 1) := by decide +kernel
theorem dd_X12_holds_13 : decode mb_X12_holds 13 = .ok (.iaload, 1) := by decide +kernel
theorem dd_X12_holds_14 : decode mb_X12_holds 14 = .ok (.ifCond .ge 5, 3) := by decide +kernel
theorem dd_X12_holds_17 : decode mb_X12_holds 17 = .ok (.iconst (-1), 1) := by decide +kernel
theorem dd_X12_holds_18 : decode mb_X12_holds 18 = .ok (.ireturn, 1) := by decide +kernel
theorem dd_X12_holdsThing_0 : decode mb_X12_holdsThing 0 = .ok (.aload_n 0, 1) := by decide +kernel
theorem dd_X12_holdsThing_1 : decode mb_X12_holdsThing 1 = .ok (.getfield 7, 3) := by decide +kernel
theorem dd_X12_holdsThing_4 : decode mb_X12_holdsThing 4 = .ok (.iload_n 1, 1) := by decide +kernel
theorem dd_X12_holdsThing_5 : decode mb_X12_holdsThing 5 = .ok (.iaload, 1) := by decide +kernel
theorem dd_X12_holdsThing_6 : decode mb_X12_holdsThing 6 = .ok (.ifCond .lt 18, 3) := by decide +kernel
theorem dd_X12_holdsThing_24 : decode mb_X12_holdsThing 24 = .ok (.iconst 0, 1) := by decide +kernel
theorem dd_X12_holdsThing_25 : decode mb_X12_holdsThing 25 = .ok (.ireturn, 1) := by decide +kernel
theorem dd_X12_image_0 : decode mb_X12_image 0 = .ok (.aload_n 0, 1) := by decide +kernel
theorem dd_X12_image_1 : decode mb_X12_image 1 = .ok (.getfield 101, 3) := by decide +kernel
theorem dd_X12_image_4 : decode mb_X12_image 4 = .ok (.iconst 0, 1) := by decide +kernel
theorem dd_X12_image_5 : decode mb_X12_image 5 = .ok (.aload_n 0, 1) := by decide +kernel
theorem dd_X12_image_6 : decode mb_X12_image 6 = .ok (.getfield 135, 3) := by decide +kernel
theorem dd_X12_image_9 : decode mb_X12_image 9 = .ok (.iastore, 1) := by decide +kernel
theorem dd_X12_image_10 : decode mb_X12_image 10 = .ok (.aload_n 0, 1) := by decide +kernel
theorem dd_X12_image_11 : decode mb_X12_image 11 = .ok (.getfield 101, 3) := by decide +kernel
theorem dd_X12_image_14 : decode mb_X12_image 14 = .ok (.iconst 1, 1) := by decide +kernel
theorem dd_X12_image_15 : decode mb_X12_image 15 = .ok (.aload_n 0, 1) := by decide +kernel
theorem dd_X12_image_16 : decode mb_X12_image 16 = .ok (.getfield 139, 3) := by decide +kernel
theorem dd_X12_image_19 : decode mb_X12_image 19 = .ok (.iastore, 1) := by decide +kernel
theorem dd_X12_image_20 : decode mb_X12_image 20 = .ok (.aload_n 0, 1) := by decide +kernel
theorem dd_X12_image_21 : decode mb_X12_image 21 = .ok (.getfield 101, 3) := by decide +kernel
theorem dd_X12_image_24 : decode mb_X12_image 24 = .ok (.iconst 2, 1) := by decide +kernel
theorem dd_X12_image_25 : decode mb_X12_image 25 = .ok (.aload_n 0, 1) := by decide +kernel
theorem dd_X12_image_26 : decode mb_X12_image 26 = .ok (.getfield 142, 3) := by decide +kernel
theorem dd_X12_image_29 : decode mb_X12_image 29 = .ok (.iastore, 1) := by decide +kernel
theorem dd_X12_image_30 : decode mb_X12_image 30 = .ok (.aload_n 0, 1) := by decide +kernel
theorem dd_X12_image_31 : decode mb_X12_image 31 = .ok (.getfield 101, 3) := by decide +kernel
theorem dd_X12_image_34 : decode mb_X12_image 34 = .ok (.iconst 3, 1) := by decide +kernel
theorem dd_X12_image_35 : decode mb_X12_image 35 = .ok (.aload_n 0, 1) := by decide +kernel
theorem dd_X12_image_36 : decode mb_X12_image 36 = .ok (.getfield 145, 3) := by decide +kernel
theorem dd_X12_image_39 : decode mb_X12_image 39 = .ok (.iastore, 1) := by decide +kernel
theorem dd_X12_image_40 : decode mb_X12_image 40 = .ok (.aload_n 0, 1) := by decide +kernel
theorem dd_X12_image_41 : decode mb_X12_image 41 = .ok (.getfield 101, 3) := by decide +kernel
theorem dd_X12_image_44 : decode mb_X12_image 44 = .ok (.iconst 4, 1) := by decide +kernel
theorem dd_X12_image_45 : decode mb_X12_image 45 = .ok (.aload_n 0, 1) := by decide +kernel
theorem dd_X12_image_46 : decode mb_X12_image 46 = .ok (.getfield 273, 3) := by decide +kernel
theorem dd_X12_image_49 : decode mb_X12_image 49 = .ok (.iastore, 1) := by decide +kernel
theorem dd_X12_image_50 : decode mb_X12_image 50 = .ok (.aload_n 0, 1) := by decide +kernel
theorem dd_X12_image_51 : decode mb_X12_image 51 = .ok (.getfield 101, 3) := by decide +kernel
theorem dd_X12_image_54 : decode mb_X12_image 54 = .ok (.iconst 5, 1) := by decide +kernel
theorem dd_X12_image_55 : decode mb_X12_image 55 = .ok (.aload_n 0, 1) := by decide +kernel
theorem dd_X12_image_56 : decode mb_X12_image 56 = .ok (.getfield 279, 3) := by decide +kernel
theorem dd_X12_image_59 : decode mb_X12_image 59 = .ok (.iastore, 1) := by decide +kernel
theorem dd_X12_image_60 : decode mb_X12_image 60 = .ok (.aload_n 0, 1) := by decide +kernel
theorem dd_X12_image_61 : decode mb_X12_image 61 = .ok (.getfield 101, 3) := by decide +kernel
theorem dd_X12_image_64 : decode mb_X12_image 64 = .ok (.bipush 6, 2) := by decide +kernel
theorem dd_X12_image_66 : decode mb_X12_image 66 = .ok (.aload_n 0, 1) := by decide +kernel
theorem dd_X12_image_67 : decode mb_X12_image 67 = .ok (.getfield 288, 3) := by decide +kernel
theorem dd_X12_image_70 : decode mb_X12_image 70 = .ok (.iastore, 1) := by decide +kernel
theorem dd_X12_image_71 : decode mb_X12_image 71 = .ok (.aload_n 0, 1) := by decide +kernel
theorem dd_X12_image_72 : decode mb_X12_image 72 = .ok (.iconst 1, 1) := by decide +kernel
theorem dd_X12_image_73 : decode mb_X12_image 73 = .ok (.invokevirtual 306, 3) := by decide +kernel
theorem dd_X12_image_76 : decode mb_X12_image 76 = .ok (.aload_n 0, 1) := by decide +kernel
theorem dd_X12_image_77 : decode mb_X12_image 77 = .ok (.iconst 1, 1) := by decide +kernel
theorem dd_X12_image_78 : decode mb_X12_image 78 = .ok (.putfield 310, 3) := by decide +kernel
theorem dd_X12_image_81 : decode mb_X12_image 81 = .ok (.iconst 1, 1) := by decide +kernel
theorem dd_X12_image_82 : decode mb_X12_image 82 = .ok (.ireturn, 1) := by decide +kernel
theorem dd_X12_isBuyer_0 : decode mb_X12_isBuyer 0 = .ok (.iload_n 1, 1) := by decide +kernel
theorem dd_X12_isBuyer_1 : decode mb_X12_isBuyer 1 = .ok (.ifCond .lt 15, 3) := by decide +kernel
theorem dd_X12_isBuyer_4 : decode mb_X12_isBuyer 4 = .ok (.iload_n 1, 1) := by decide +kernel
theorem dd_X12_isBuyer_5 : decode mb_X12_isBuyer 5 = .ok (.aload_n 0, 1) := by decide +kernel
theorem dd_X12_isBuyer_6 : decode mb_X12_isBuyer 6 = .ok (.getfield 145, 3) := by decide +kernel
theorem dd_X12_isBuyer_9 : decode mb_X12_isBuyer 9 = .ok (.if_icmp .ge 7, 3) := by decide +kernel
theorem dd_X12_isBuyer_16 : decode mb_X12_isBuyer 16 = .ok (.iconst 0, 1) := by decide +kernel
theorem dd_X12_isBuyer_17 : decode mb_X12_isBuyer 17 = .ok (.ireturn, 1) := by decide +kernel
theorem dd_X12_isHour_0 : decode mb_X12_isHour 0 = .ok (.iload_n 1, 1) := by decide +kernel
theorem dd_X12_isHour_1 : decode mb_X12_isHour 1 = .ok (.ifCond .lt 13, 3) := by decide +kernel
theorem dd_X12_isHour_4 : decode mb_X12_isHour 4 = .ok (.iload_n 1, 1) := by decide +kernel
theorem dd_X12_isHour_5 : decode mb_X12_isHour 5 = .ok (.bipush 12, 2) := by decide +kernel
theorem dd_X12_isHour_7 : decode mb_X12_isHour 7 = .ok (.if_icmp .ge 7, 3) := by decide +kernel
theorem dd_X12_isHour_10 : decode mb_X12_isHour 10 = .ok (.iconst 1, 1) := by decide +kernel
theorem dd_X12_isHour_11 : decode mb_X12_isHour 11 = .ok (.goto 4, 3) := by decide +kernel
theorem dd_X12_isHour_14 : decode mb_X12_isHour 14 = .ok (.iconst 0, 1) := by decide +kernel
theorem dd_X12_isHour_15 : decode mb_X12_isHour 15 = .ok (.ireturn, 1) := by decide +kernel
theorem dd_X12_isKind_0 : decode mb_X12_isKind 0 = .ok (.iload_n 1, 1) := by decide +kernel
theorem dd_X12_isKind_1 : decode mb_X12_isKind 1 = .ok (.ifCond .lt 13, 3) := by decide +kernel
theorem dd_X12_isKind_4 : decode mb_X12_isKind 4 = .ok (.iload_n 1, 1) := by decide +kernel
theorem dd_X12_isKind_5 : decode mb_X12_isKind 5 = .ok (.bipush 6, 2) := by decide +kernel
theorem dd_X12_isKind_7 : decode mb_X12_isKind 7 = .ok (.if_icmp .ge 7, 3) := by decide +kernel
theorem dd_X12_isKind_10 : decode mb_X12_isKind 10 = .ok (.iconst 1, 1) := by decide +kernel
theorem dd_X12_isKind_11 : decode mb_X12_isKind 11 = .ok (.goto 4, 3) := by decide +kernel
theorem dd_X12_isKind_14 : decode mb_X12_isKind 14 = .ok (.iconst 0, 1) := by decide +kernel
theorem dd_X12_isKind_15 : decode mb_X12_isKind 15 = .ok (.ireturn, 1) := by decide +kernel
theorem dd_X12_isLady_0 : decode mb_X12_isLady 0 = .ok (.iload_n 1, 1) := by decide +kernel
theorem dd_X12_isLady_1 : decode mb_X12_isLady 1 = .ok (.ifCond .lt 15, 3) := by decide +kernel
theorem dd_X12_isLady_4 : decode mb_X12_isLady 4 = .ok (.iload_n 1, 1) := by decide +kernel
theorem dd_X12_isLady_5 : decode mb_X12_isLady 5 = .ok (.aload_n 0, 1) := by decide +kernel
theorem dd_X12_isLady_6 : decode mb_X12_isLady 6 = .ok (.getfield 139, 3) := by decide +kernel
theorem dd_X12_isLady_9 : decode mb_X12_isLady 9 = .ok (.if_icmp .ge 7, 3) := by decide +kernel
theorem dd_X12_isLady_16 : decode mb_X12_isLady 16 = .ok (.iconst 0, 1) := by decide +kernel
theorem dd_X12_isLady_17 : decode mb_X12_isLady 17 = .ok (.ireturn, 1) := by decide +kernel
theorem dd_X12_isLaw_0 : decode mb_X12_isLaw 0 = .ok (.iload_n 1, 1) := by decide +kernel
theorem dd_X12_isLaw_1 : decode mb_X12_isLaw 1 = .ok (.ifCond .lt 15, 3) := by decide +kernel
theorem dd_X12_isLaw_4 : decode mb_X12_isLaw 4 = .ok (.iload_n 1, 1) := by decide +kernel
theorem dd_X12_isLaw_5 : decode mb_X12_isLaw 5 = .ok (.aload_n 0, 1) := by decide +kernel
theorem dd_X12_isLaw_6 : decode mb_X12_isLaw 6 = .ok (.getfield 142, 3) := by decide +kernel
theorem dd_X12_isLaw_9 : decode mb_X12_isLaw 9 = .ok (.if_icmp .ge 7, 3) := by decide +kernel
theorem dd_X12_isLaw_16 : decode mb_X12_isLaw 16 = .ok (.iconst 0, 1) := by decide +kernel
theorem dd_X12_isLaw_17 : decode mb_X12_isLaw 17 = .ok (.ireturn, 1) := by decide +kernel
theorem dd_X12_isPerson_0 : decode mb_X12_isPerson 0 = .ok (.iload_n 1, 1) := by decide +kernel
theorem dd_X12_isPerson_1 : decode mb_X12_isPerson 1 = .ok (.ifCond .lt 13, 3) := by decide +kernel
theorem dd_X12_isPerson_4 : decode mb_X12_isPerson 4 = .ok (.iload_n 1, 1) := by decide +kernel
theorem dd_X12_isPerson_5 : decode mb_X12_isPerson 5 = .ok (.bipush 16, 2) := by decide +kernel
theorem dd_X12_isPerson_7 : decode mb_X12_isPerson 7 = .ok (.if_icmp .ge 7, 3) := by decide +kernel
theorem dd_X12_isPerson_10 : decode mb_X12_isPerson 10 = .ok (.iconst 1, 1) := by decide +kernel
theorem dd_X12_isPerson_11 : decode mb_X12_isPerson 11 = .ok (.goto 4, 3) := by decide +kernel
theorem dd_X12_isPerson_14 : decode mb_X12_isPerson 14 = .ok (.iconst 0, 1) := by decide +kernel
theorem dd_X12_isPerson_15 : decode mb_X12_isPerson 15 = .ok (.ireturn, 1) := by decide +kernel
theorem dd_X12_isRow_0 : decode mb_X12_isRow 0 = .ok (.aload_n 0, 1) := by decide +kernel
theorem dd_X12_isRow_1 : decode mb_X12_isRow 1 = .ok (.getfield 7, 3) := by decide +kernel
theorem dd_X12_isRow_4 : decode mb_X12_isRow 4 = .ok (.iload_n 1, 1) := by decide +kernel
theorem dd_X12_isRow_5 : decode mb_X12_isRow 5 = .ok (.iaload, 1) := by decide +kernel
theorem dd_X12_isRow_6 : decode mb_X12_isRow 6 = .ok (.bipush 100, 2) := by decide +kernel
theorem dd_X12_isRow_8 : decode mb_X12_isRow 8 = .ok (.if_icmp .lt 7, 3) := by decide +kernel
theorem dd_X12_isRow_15 : decode mb_X12_isRow 15 = .ok (.iconst 0, 1) := by decide +kernel
theorem dd_X12_isRow_16 : decode mb_X12_isRow 16 = .ok (.ireturn, 1) := by decide +kernel
theorem dd_X12_isShelf_0 : decode mb_X12_isShelf 0 = .ok (.iload_n 1, 1) := by decide +kernel
theorem dd_X12_isShelf_1 : decode mb_X12_isShelf 1 = .ok (.ifCond .lt 13, 3) := by decide +kernel
theorem dd_X12_isShelf_4 : decode mb_X12_isShelf 4 = .ok (.iload_n 1, 1) := by decide +kernel
theorem dd_X12_isShelf_5 : decode mb_X12_isShelf 5 = .ok (.bipush 8, 2) := by decide +kernel
theorem dd_X12_isShelf_7 : decode mb_X12_isShelf 7 = .ok (.if_icmp .ge 7, 3) := by decide +kernel
theorem dd_X12_isShelf_10 : decode mb_X12_isShelf 10 = .ok (.iconst 1, 1) := by decide +kernel
theorem dd_X12_isShelf_11 : decode mb_X12_isShelf 11 = .ok (.goto 4, 3) := by decide +kernel
theorem dd_X12_isShelf_14 : decode mb_X12_isShelf 14 = .ok (.iconst 0, 1) := by decide +kernel
theorem dd_X12_isShelf_15 : decode mb_X12_isShelf 15 = .ok (.ireturn, 1) := by decide +kernel
theorem dd_X12_isThing_0 : decode mb_X12_isThing 0 = .ok (.iload_n 1, 1) := by decide +kernel
theorem dd_X12_isThing_1 : decode mb_X12_isThing 1 = .ok (.ifCond .lt 15, 3) := by decide +kernel
theorem dd_X12_isThing_4 : decode mb_X12_isThing 4 = .ok (.iload_n 1, 1) := by decide +kernel
theorem dd_X12_isThing_5 : decode mb_X12_isThing 5 = .ok (.aload_n 0, 1) := by decide +kernel
theorem dd_X12_isThing_6 : decode mb_X12_isThing 6 = .ok (.getfield 135, 3) := by decide +kernel
theorem dd_X12_isThing_9 : decode mb_X12_isThing 9 = .ok (.if_icmp .ge 7, 3) := by decide +kernel
theorem dd_X12_isThing_16 : decode mb_X12_isThing 16 = .ok (.iconst 0, 1) := by decide +kernel
theorem dd_X12_isThing_17 : decode mb_X12_isThing 17 = .ok (.ireturn, 1) := by decide +kernel
theorem dd_X12_judge_0 : decode mb_X12_judge 0 = .ok (.aload_n 0, 1) := by decide +kernel
theorem dd_X12_judge_1 : decode mb_X12_judge 1 = .ok (.iload_n 1, 1) := by decide +kernel
theorem dd_X12_judge_2 : decode mb_X12_judge 2 = .ok (.invokevirtual 159, 3) := by decide +kernel
theorem dd_X12_judge_5 : decode mb_X12_judge 5 = .ok (.istore_n 2, 1) := by decide +kernel
theorem dd_X12_judge_6 : decode mb_X12_judge 6 = .ok (.iload_n 2, 1) := by decide +kernel
theorem dd_X12_judge_7 : decode mb_X12_judge 7 = .ok (.ifCond .ge 9, 3) := by decide +kernel
theorem dd_X12_judge_10 : decode mb_X12_judge 10 = .ok (.aload_n 0, 1) := by decide +kernel
theorem dd_X12_judge_11 : decode mb_X12_judge 11 = .ok (.iload_n 2, 1) := by decide +kernel
theorem dd_X12_judge_12 : decode mb_X12_judge 12 = .ok (.invokevirtual 152, 3) := by decide +kernel
theorem dd_X12_judge_15 : decode mb_X12_judge 15 = .ok (.ireturn, 1) := by decide +kernel
theorem dd_X12_lady_0 : decode mb_X12_lady 0 = .ok (.aload_n 0, 1) := by decide +kernel
theorem dd_X12_lady_1 : decode mb_X12_lady 1 = .ok (.iload_n 1, 1) := by decide +kernel
theorem dd_X12_lady_2 : decode mb_X12_lady 2 = .ok (.invokevirtual 190, 3) := by decide +kernel
theorem dd_X12_lady_5 : decode mb_X12_lady 5 = .ok (.ifCond .eq 14, 3) := by decide +kernel
theorem dd_X12_lady_8 : decode mb_X12_lady 8 = .ok (.iload_n 2, 1) := by decide +kernel
theorem dd_X12_lady_9 : decode mb_X12_lady 9 = .ok (.ifCond .lt 10, 3) := by decide +kernel
theorem dd_X12_lady_12 : decode mb_X12_lady 12 = .ok (.iload_n 2, 1) := by decide +kernel
theorem dd_X12_lady_13 : decode mb_X12_lady 13 = .ok (.sipush 999, 3) := by decide +kernel
theorem dd_X12_lady_16 : decode mb_X12_lady 16 = .ok (.if_icmp .le 10, 3) := by decide +kernel
theorem dd_X12_lady_19 : decode mb_X12_lady 19 = .ok (.aload_n 0, 1) := by decide +kernel
theorem dd_X12_lady_20 : decode mb_X12_lady 20 = .ok (.bipush (-2), 2) := by decide +kernel
theorem dd_X12_lady_22 : decode mb_X12_lady 22 = .ok (.invokevirtual 152, 3) := by decide +kernel
theorem dd_X12_lady_25 : decode mb_X12_lady 25 = .ok (.ireturn, 1) := by decide +kernel
theorem dd_X12_lady_26 : decode mb_X12_lady 26 = .ok (.aload_n 0, 1) := by decide +kernel
theorem dd_X12_lady_27 : decode mb_X12_lady 27 = .ok (.getfield 139, 3) := by decide +kernel
theorem dd_X12_lady_30 : decode mb_X12_lady 30 = .ok (.iconst 5, 1) := by decide +kernel
theorem dd_X12_lady_31 : decode mb_X12_lady 31 = .ok (.if_icmp .ne 10, 3) := by decide +kernel
theorem dd_X12_lady_41 : decode mb_X12_lady 41 = .ok (.aload_n 0, 1) := by decide +kernel
theorem dd_X12_lady_42 : decode mb_X12_lady 42 = .ok (.getfield 38, 3) := by decide +kernel
theorem dd_X12_lady_45 : decode mb_X12_lady 45 = .ok (.aload_n 0, 1) := by decide +kernel
theorem dd_X12_lady_46 : decode mb_X12_lady 46 = .ok (.getfield 139, 3) := by decide +kernel
theorem dd_X12_lady_49 : decode mb_X12_lady 49 = .ok (.iload_n 1, 1) := by decide +kernel
theorem dd_X12_lady_50 : decode mb_X12_lady 50 = .ok (.iastore, 1) := by decide +kernel
theorem dd_X12_lady_51 : decode mb_X12_lady 51 = .ok (.aload_n 0, 1) := by decide +kernel
theorem dd_X12_lady_52 : decode mb_X12_lady 52 = .ok (.getfield 41, 3) := by decide +kernel
theorem dd_X12_lady_55 : decode mb_X12_lady 55 = .ok (.aload_n 0, 1) := by decide +kernel
theorem dd_X12_lady_56 : decode mb_X12_lady 56 = .ok (.getfield 139, 3) := by decide +kernel
theorem dd_X12_lady_59 : decode mb_X12_lady 59 = .ok (.iload_n 2, 1) := by decide +kernel
theorem dd_X12_lady_60 : decode mb_X12_lady 60 = .ok (.iastore, 1) := by decide +kernel
theorem dd_X12_lady_61 : decode mb_X12_lady 61 = .ok (.aload_n 0, 1) := by decide +kernel
theorem dd_X12_lady_62 : decode mb_X12_lady 62 = .ok (.getfield 44, 3) := by decide +kernel
theorem dd_X12_lady_65 : decode mb_X12_lady 65 = .ok (.aload_n 0, 1) := by decide +kernel
theorem dd_X12_lady_66 : decode mb_X12_lady 66 = .ok (.getfield 139, 3) := by decide +kernel
theorem dd_X12_lady_69 : decode mb_X12_lady 69 = .ok (.iconst (-1), 1) := by decide +kernel
theorem dd_X12_lady_70 : decode mb_X12_lady 70 = .ok (.iastore, 1) := by decide +kernel
theorem dd_X12_lady_71 : decode mb_X12_lady 71 = .ok (.aload_n 0, 1) := by decide +kernel
theorem dd_X12_lady_72 : decode mb_X12_lady 72 = .ok (.dup, 1) := by decide +kernel
theorem dd_X12_lady_73 : decode mb_X12_lady 73 = .ok (.getfield 139, 3) := by decide +kernel
theorem dd_X12_lady_76 : decode mb_X12_lady 76 = .ok (.dup_x1, 1) := by decide +kernel
theorem dd_X12_lady_77 : decode mb_X12_lady 77 = .ok (.iconst 1, 1) := by decide +kernel
theorem dd_X12_lady_78 : decode mb_X12_lady 78 = .ok (.iadd, 1) := by decide +kernel
theorem dd_X12_lady_79 : decode mb_X12_lady 79 = .ok (.putfield 139, 3) := by decide +kernel
theorem dd_X12_lady_82 : decode mb_X12_lady 82 = .ok (.ireturn, 1) := by decide +kernel
theorem dd_X12_laid_0 : decode mb_X12_laid 0 = .ok (.iload_n 1, 1) := by decide +kernel
theorem dd_X12_laid_1 : decode mb_X12_laid 1 = .ok (.iconst 1, 1) := by decide +kernel
theorem dd_X12_laid_2 : decode mb_X12_laid 2 = .ok (.if_icmp .lt 17, 3) := by decide +kernel
theorem dd_X12_laid_5 : decode mb_X12_laid 5 = .ok (.iload_n 1, 1) := by decide +kernel
theorem dd_X12_laid_6 : decode mb_X12_laid 6 = .ok (.bipush 10, 2) := by decide +kernel
theorem dd_X12_laid_8 : decode mb_X12_laid 8 = .ok (.if_icmp .gt 11, 3) := by decide +kernel
theorem dd_X12_laid_11 : decode mb_X12_laid 11 = .ok (.aload_n 0, 1) := by decide +kernel
theorem dd_X12_laid_12 : decode mb_X12_laid 12 = .ok (.iload_n 2, 1) := by decide +kernel
theorem dd_X12_laid_13 : decode mb_X12_laid 13 = .ok (.invokevirtual 165, 3) := by decide +kernel
theorem dd_X12_laid_16 : decode mb_X12_laid 16 = .ok (.ifCond .ne 10, 3) := by decide +kernel
theorem dd_X12_laid_19 : decode mb_X12_laid 19 = .ok (.aload_n 0, 1) := by decide +kernel
theorem dd_X12_laid_20 : decode mb_X12_laid 20 = .ok (.bipush (-2), 2) := by decide +kernel
theorem dd_X12_laid_22 : decode mb_X12_laid 22 = .ok (.invokevirtual 152, 3) := by decide +kernel
theorem dd_X12_laid_25 : decode mb_X12_laid 25 = .ok (.ireturn, 1) := by decide +kernel
theorem dd_X12_lawOf_0 : decode mb_X12_lawOf 0 = .ok (.aload_n 0, 1) := by decide +kernel
theorem dd_X12_lawOf_1 : decode mb_X12_lawOf 1 = .ok (.iload_n 1, 1) := by decide +kernel
theorem dd_X12_lawOf_2 : decode mb_X12_lawOf 2 = .ok (.invokevirtual 196, 3) := by decide +kernel
theorem dd_X12_lawOf_5 : decode mb_X12_lawOf 5 = .ok (.ifCond .eq 12, 3) := by decide +kernel
theorem dd_X12_lawOf_17 : decode mb_X12_lawOf 17 = .ok (.aload_n 0, 1) := by decide +kernel
theorem dd_X12_lawOf_18 : decode mb_X12_lawOf 18 = .ok (.bipush (-2), 2) := by decide +kernel
theorem dd_X12_lawOf_20 : decode mb_X12_lawOf 20 = .ok (.invokevirtual 152, 3) := by decide +kernel
theorem dd_X12_lawOf_23 : decode mb_X12_lawOf 23 = .ok (.ireturn, 1) := by decide +kernel
theorem dd_X12_longest_0 : decode mb_X12_longest 0 = .ok (.iconst 0, 1) := by decide +kernel
theorem dd_X12_longest_1 : decode mb_X12_longest 1 = .ok (.istore_n 1, 1) := by decide +kernel
theorem dd_X12_longest_2 : decode mb_X12_longest 2 = .ok (.iconst 0, 1) := by decide +kernel
theorem dd_X12_longest_3 : decode mb_X12_longest 3 = .ok (.istore_n 2, 1) := by decide +kernel
theorem dd_X12_longest_4 : decode mb_X12_longest 4 = .ok (.iload_n 2, 1) := by decide +kernel
theorem dd_X12_longest_5 : decode mb_X12_longest 5 = .ok (.aload_n 0, 1) := by decide +kernel
theorem dd_X12_longest_6 : decode mb_X12_longest 6 = .ok (.getfield 279, 3) := by decide +kernel
theorem dd_X12_longest_9 : decode mb_X12_longest 9 = .ok (.if_icmp .ge 16, 3) := by decide +kernel
theorem dd_X12_longest_25 : decode mb_X12_longest 25 = .ok (.iconst 0, 1) := by decide +kernel
theorem dd_X12_longest_26 : decode mb_X12_longest 26 = .ok (.istore_n 2, 1) := by decide +kernel
theorem dd_X12_longest_27 : decode mb_X12_longest 27 = .ok (.iload_n 2, 1) := by decide +kernel
theorem dd_X12_longest_28 : decode mb_X12_longest 28 = .ok (.bipush 100, 2) := by decide +kernel
theorem dd_X12_longest_30 : decode mb_X12_longest 30 = .ok (.if_icmp .ge 116, 3) := by decide +kernel
theorem dd_X12_longest_33 : decode mb_X12_longest 33 = .ok (.iconst 0, 1) := by decide +kernel
theorem dd_X12_longest_34 : decode mb_X12_longest 34 = .ok (.istore_n 3, 1) := by decide +kernel
theorem dd_X12_longest_35 : decode mb_X12_longest 35 = .ok (.iload_n 3, 1) := by decide +kernel
theorem dd_X12_longest_36 : decode mb_X12_longest 36 = .ok (.aload_n 0, 1) := by decide +kernel
theorem dd_X12_longest_37 : decode mb_X12_longest 37 = .ok (.getfield 279, 3) := by decide +kernel
theorem dd_X12_longest_40 : decode mb_X12_longest 40 = .ok (.if_icmp .ge 100, 3) := by decide +kernel
theorem dd_X12_longest_140 : decode mb_X12_longest 140 = .ok (.iinc 2 1, 3) := by decide +kernel
theorem dd_X12_longest_143 : decode mb_X12_longest 143 = .ok (.goto (-116), 3) := by decide +kernel
theorem dd_X12_longest_146 : decode mb_X12_longest 146 = .ok (.iload_n 1, 1) := by decide +kernel
theorem dd_X12_longest_147 : decode mb_X12_longest 147 = .ok (.ireturn, 1) := by decide +kernel
theorem dd_X12_looks_0 : decode mb_X12_looks 0 = .ok (.aload_n 0, 1) := by decide +kernel
theorem dd_X12_looks_1 : decode mb_X12_looks 1 = .ok (.iload_n 1, 1) := by decide +kernel
theorem dd_X12_looks_2 : decode mb_X12_looks 2 = .ok (.invokevirtual 276, 3) := by decide +kernel
theorem dd_X12_looks_5 : decode mb_X12_looks 5 = .ok (.ifCond .eq 13, 3) := by decide +kernel
theorem dd_X12_looks_8 : decode mb_X12_looks 8 = .ok (.iload_n 2, 1) := by decide +kernel
theorem dd_X12_looks_9 : decode mb_X12_looks 9 = .ok (.ifCond .lt 9, 3) := by decide +kernel
theorem dd_X12_looks_12 : decode mb_X12_looks 12 = .ok (.iload_n 2, 1) := by decide +kernel
theorem dd_X12_looks_13 : decode mb_X12_looks 13 = .ok (.bipush 31, 2) := by decide +kernel
theorem dd_X12_looks_15 : decode mb_X12_looks 15 = .ok (.if_icmp .le 10, 3) := by decide +kernel
theorem dd_X12_looks_18 : decode mb_X12_looks 18 = .ok (.aload_n 0, 1) := by decide +kernel
theorem dd_X12_looks_19 : decode mb_X12_looks 19 = .ok (.bipush (-2), 2) := by decide +kernel
theorem dd_X12_looks_21 : decode mb_X12_looks 21 = .ok (.invokevirtual 152, 3) := by decide +kernel
theorem dd_X12_looks_24 : decode mb_X12_looks 24 = .ok (.ireturn, 1) := by decide +kernel
theorem dd_X12_looks_25 : decode mb_X12_looks 25 = .ok (.aload_n 0, 1) := by decide +kernel
theorem dd_X12_looks_26 : decode mb_X12_looks 26 = .ok (.getfield 89, 3) := by decide +kernel
theorem dd_X12_looks_29 : decode mb_X12_looks 29 = .ok (.iload_n 1, 1) := by decide +kernel
theorem dd_X12_looks_30 : decode mb_X12_looks 30 = .ok (.iaload, 1) := by decide +kernel
theorem dd_X12_looks_31 : decode mb_X12_looks 31 = .ok (.istore_n 3, 1) := by decide +kernel
theorem dd_X12_looks_32 : decode mb_X12_looks 32 = .ok (.aload_n 0, 1) := by decide +kernel
theorem dd_X12_looks_33 : decode mb_X12_looks 33 = .ok (.getfield 89, 3) := by decide +kernel
theorem dd_X12_looks_36 : decode mb_X12_looks 36 = .ok (.iload_n 1, 1) := by decide +kernel
theorem dd_X12_looks_37 : decode mb_X12_looks 37 = .ok (.iload_n 2, 1) := by decide +kernel
theorem dd_X12_looks_38 : decode mb_X12_looks 38 = .ok (.iastore, 1) := by decide +kernel
theorem dd_X12_looks_39 : decode mb_X12_looks 39 = .ok (.iload_n 3, 1) := by decide +kernel
theorem dd_X12_looks_40 : decode mb_X12_looks 40 = .ok (.ireturn, 1) := by decide +kernel
theorem dd_X12_loses_0 : decode mb_X12_loses 0 = .ok (.aload_n 0, 1) := by decide +kernel
theorem dd_X12_loses_1 : decode mb_X12_loses 1 = .ok (.iload_n 1, 1) := by decide +kernel
theorem dd_X12_loses_2 : decode mb_X12_loses 2 = .ok (.invokevirtual 193, 3) := by decide +kernel
theorem dd_X12_loses_5 : decode mb_X12_loses 5 = .ok (.ifCond .eq 11, 3) := by decide +kernel
theorem dd_X12_loses_16 : decode mb_X12_loses 16 = .ok (.aload_n 0, 1) := by decide +kernel
theorem dd_X12_loses_17 : decode mb_X12_loses 17 = .ok (.bipush (-2), 2) := by decide +kernel
theorem dd_X12_loses_19 : decode mb_X12_loses 19 = .ok (.invokevirtual 152, 3) := by decide +kernel
theorem dd_X12_loses_22 : decode mb_X12_loses 22 = .ok (.ireturn, 1) := by decide +kernel
theorem dd_X12_mark_0 : decode mb_X12_mark 0 = .ok (.aload_n 0, 1) := by decide +kernel
theorem dd_X12_mark_1 : decode mb_X12_mark 1 = .ok (.iload_n 1, 1) := by decide +kernel
theorem dd_X12_mark_2 : decode mb_X12_mark 2 = .ok (.invokevirtual 165, 3) := by decide +kernel
theorem dd_X12_mark_5 : decode mb_X12_mark 5 = .ok (.ifCond .eq 15, 3) := by decide +kernel
theorem dd_X12_mark_20 : decode mb_X12_mark 20 = .ok (.aload_n 0, 1) := by decide +kernel
theorem dd_X12_mark_21 : decode mb_X12_mark 21 = .ok (.bipush (-2), 2) := by decide +kernel
theorem dd_X12_mark_23 : decode mb_X12_mark 23 = .ok (.invokevirtual 152, 3) := by decide +kernel
theorem dd_X12_mark_26 : decode mb_X12_mark 26 = .ok (.ireturn, 1) := by decide +kernel
theorem dd_X12_morning_0 : decode mb_X12_morning 0 = .ok (.aload_n 0, 1) := by decide +kernel
theorem dd_X12_morning_1 : decode mb_X12_morning 1 = .ok (.getfield 92, 3) := by decide +kernel
theorem dd_X12_morning_4 : decode mb_X12_morning 4 = .ok (.iconst 2, 1) := by decide +kernel
theorem dd_X12_morning_5 : decode mb_X12_morning 5 = .ok (.iaload, 1) := by decide +kernel
theorem dd_X12_morning_6 : decode mb_X12_morning 6 = .ok (.istore_n 1, 1) := by decide +kernel
theorem dd_X12_morning_7 : decode mb_X12_morning 7 = .ok (.aload_n 0, 1) := by decide +kernel
theorem dd_X12_morning_8 : decode mb_X12_morning 8 = .ok (.getfield 92, 3) := by decide +kernel
theorem dd_X12_morning_11 : decode mb_X12_morning 11 = .ok (.iconst 2, 1) := by decide +kernel
theorem dd_X12_morning_12 : decode mb_X12_morning 12 = .ok (.iconst 0, 1) := by decide +kernel
theorem dd_X12_morning_13 : decode mb_X12_morning 13 = .ok (.iastore, 1) := by decide +kernel
theorem dd_X12_morning_14 : decode mb_X12_morning 14 = .ok (.aload_n 0, 1) := by decide +kernel
theorem dd_X12_morning_15 : decode mb_X12_morning 15 = .ok (.getfield 92, 3) := by decide +kernel
theorem dd_X12_morning_18 : decode mb_X12_morning 18 = .ok (.iconst 3, 1) := by decide +kernel
theorem dd_X12_morning_19 : decode mb_X12_morning 19 = .ok (.iconst 0, 1) := by decide +kernel
theorem dd_X12_morning_20 : decode mb_X12_morning 20 = .ok (.iastore, 1) := by decide +kernel
theorem dd_X12_morning_21 : decode mb_X12_morning 21 = .ok (.iload_n 1, 1) := by decide +kernel
theorem dd_X12_morning_22 : decode mb_X12_morning 22 = .ok (.ireturn, 1) := by decide +kernel
theorem dd_X12_move_0 : decode mb_X12_move 0 = .ok (.iconst 0, 1) := by decide +kernel
theorem dd_X12_move_1 : decode mb_X12_move 1 = .ok (.istore 4, 2) := by decide +kernel
theorem dd_X12_move_3 : decode mb_X12_move 3 = .ok (.iload 4, 2) := by decide +kernel
theorem dd_X12_move_5 : decode mb_X12_move 5 = .ok (.aload_n 1, 1) := by decide +kernel
theorem dd_X12_move_6 : decode mb_X12_move 6 = .ok (.arraylength, 1) := by decide +kernel
theorem dd_X12_move_7 : decode mb_X12_move 7 = .ok (.if_icmp .ge 42, 3) := by decide +kernel
theorem dd_X12_move_10 : decode mb_X12_move 10 = .ok (.iload_n 3, 1) := by decide +kernel
theorem dd_X12_move_11 : decode mb_X12_move 11 = .ok (.ifCond .eq 19, 3) := by decide +kernel
theorem dd_X12_move_14 : decode mb_X12_move 14 = .ok (.aload_n 0, 1) := by decide +kernel
theorem dd_X12_move_15 : decode mb_X12_move 15 = .ok (.getfield 98, 3) := by decide +kernel
theorem dd_X12_move_18 : decode mb_X12_move 18 = .ok (.iload_n 2, 1) := by decide +kernel
theorem dd_X12_move_19 : decode mb_X12_move 19 = .ok (.iload 4, 2) := by decide +kernel
theorem dd_X12_move_21 : decode mb_X12_move 21 = .ok (.iadd, 1) := by decide +kernel
theorem dd_X12_move_22 : decode mb_X12_move 22 = .ok (.aload_n 1, 1) := by decide +kernel
theorem dd_X12_move_23 : decode mb_X12_move 23 = .ok (.iload 4, 2) := by decide +kernel
theorem dd_X12_move_25 : decode mb_X12_move 25 = .ok (.iaload, 1) := by decide +kernel
theorem dd_X12_move_26 : decode mb_X12_move 26 = .ok (.iastore, 1) := by decide +kernel
theorem dd_X12_move_27 : decode mb_X12_move 27 = .ok (.goto 16, 3) := by decide +kernel
theorem dd_X12_move_43 : decode mb_X12_move 43 = .ok (.iinc 4 1, 3) := by decide +kernel
theorem dd_X12_move_46 : decode mb_X12_move 46 = .ok (.goto (-43), 3) := by decide +kernel
theorem dd_X12_move_49 : decode mb_X12_move 49 = .ok (.iload_n 2, 1) := by decide +kernel
theorem dd_X12_move_50 : decode mb_X12_move 50 = .ok (.aload_n 1, 1) := by decide +kernel
theorem dd_X12_move_51 : decode mb_X12_move 51 = .ok (.arraylength, 1) := by decide +kernel
theorem dd_X12_move_52 : decode mb_X12_move 52 = .ok (.iadd, 1) := by decide +kernel
theorem dd_X12_move_53 : decode mb_X12_move 53 = .ok (.ireturn, 1) := by decide +kernel
theorem dd_X12_moveAll_0 : decode mb_X12_moveAll 0 = .ok (.aload_n 0, 1) := by decide +kernel
theorem dd_X12_moveAll_1 : decode mb_X12_moveAll 1 = .ok (.aload_n 0, 1) := by decide +kernel
theorem dd_X12_moveAll_2 : decode mb_X12_moveAll 2 = .ok (.getfield 101, 3) := by decide +kernel
theorem dd_X12_moveAll_5 : decode mb_X12_moveAll 5 = .ok (.iconst 0, 1) := by decide +kernel
theorem dd_X12_moveAll_6 : decode mb_X12_moveAll 6 = .ok (.iload_n 1, 1) := by decide +kernel
theorem dd_X12_moveAll_7 : decode mb_X12_moveAll 7 = .ok (.invokevirtual 302, 3) := by decide +kernel
theorem dd_X12_moveAll_10 : decode mb_X12_moveAll 10 = .ok (.istore_n 2, 1) := by decide +kernel
theorem dd_X12_moveAll_11 : decode mb_X12_moveAll 11 = .ok (.aload_n 0, 1) := by decide +kernel
theorem dd_X12_moveAll_12 : decode mb_X12_moveAll 12 = .ok (.aload_n 0, 1) := by decide +kernel
theorem dd_X12_moveAll_13 : decode mb_X12_moveAll 13 = .ok (.getfield 20, 3) := by decide +kernel
theorem dd_X12_moveAll_16 : decode mb_X12_moveAll 16 = .ok (.iload_n 2, 1) := by decide +kernel
theorem dd_X12_moveAll_17 : decode mb_X12_moveAll 17 = .ok (.iload_n 1, 1) := by decide +kernel
theorem dd_X12_moveAll_18 : decode mb_X12_moveAll 18 = .ok (.invokevirtual 302, 3) := by decide +kernel
theorem dd_X12_moveAll_21 : decode mb_X12_moveAll 21 = .ok (.istore_n 2, 1) := by decide +kernel
theorem dd_X12_moveAll_22 : decode mb_X12_moveAll 22 = .ok (.aload_n 0, 1) := by decide +kernel
theorem dd_X12_moveAll_23 : decode mb_X12_moveAll 23 = .ok (.aload_n 0, 1) := by decide +kernel
theorem dd_X12_moveAll_24 : decode mb_X12_moveAll 24 = .ok (.getfield 23, 3) := by decide +kernel
theorem dd_X12_moveAll_27 : decode mb_X12_moveAll 27 = .ok (.iload_n 2, 1) := by decide +kernel
theorem dd_X12_moveAll_28 : decode mb_X12_moveAll 28 = .ok (.iload_n 1, 1) := by decide +kernel
theorem dd_X12_moveAll_29 : decode mb_X12_moveAll 29 = .ok (.invokevirtual 302, 3) := by decide +kernel
theorem dd_X12_moveAll_32 : decode mb_X12_moveAll 32 = .ok (.istore_n 2, 1) := by decide +kernel
theorem dd_X12_moveAll_33 : decode mb_X12_moveAll 33 = .ok (.aload_n 0, 1) := by decide +kernel
theorem dd_X12_moveAll_34 : decode mb_X12_moveAll 34 = .ok (.aload_n 0, 1) := by decide +kernel
theorem dd_X12_moveAll_35 : decode mb_X12_moveAll 35 = .ok (.getfield 26, 3) := by decide +kernel
theorem dd_X12_moveAll_38 : decode mb_X12_moveAll 38 = .ok (.iload_n 2, 1) := by decide +kernel
theorem dd_X12_moveAll_39 : decode mb_X12_moveAll 39 = .ok (.iload_n 1, 1) := by decide +kernel
theorem dd_X12_moveAll_40 : decode mb_X12_moveAll 40 = .ok (.invokevirtual 302, 3) := by decide +kernel
theorem dd_X12_moveAll_43 : decode mb_X12_moveAll 43 = .ok (.istore_n 2, 1) := by decide +kernel
theorem dd_X12_moveAll_44 : decode mb_X12_moveAll 44 = .ok (.aload_n 0, 1) := by decide +kernel
theorem dd_X12_moveAll_45 : decode mb_X12_moveAll 45 = .ok (.aload_n 0, 1) := by decide +kernel
theorem dd_X12_moveAll_46 : decode mb_X12_moveAll 46 = .ok (.getfield 29, 3) := by decide +kernel
theorem dd_X12_moveAll_49 : decode mb_X12_moveAll 49 = .ok (.iload_n 2, 1) := by decide +kernel
theorem dd_X12_moveAll_50 : decode mb_X12_moveAll 50 = .ok (.iload_n 1, 1) := by decide +kernel
theorem dd_X12_moveAll_51 : decode mb_X12_moveAll 51 = .ok (.invokevirtual 302, 3) := by decide +kernel
theorem dd_X12_moveAll_54 : decode mb_X12_moveAll 54 = .ok (.istore_n 2, 1) := by decide +kernel
theorem dd_X12_moveAll_55 : decode mb_X12_moveAll 55 = .ok (.aload_n 0, 1) := by decide +kernel
theorem dd_X12_moveAll_56 : decode mb_X12_moveAll 56 = .ok (.aload_n 0, 1) := by decide +kernel
theorem dd_X12_moveAll_57 : decode mb_X12_moveAll 57 = .ok (.getfield 32, 3) := by decide +kernel
theorem dd_X12_moveAll_60 : decode mb_X12_moveAll 60 = .ok (.iload_n 2, 1) := by decide +kernel
theorem dd_X12_moveAll_61 : decode mb_X12_moveAll 61 = .ok (.iload_n 1, 1) := by decide +kernel
theorem dd_X12_moveAll_62 : decode mb_X12_moveAll 62 = .ok (.invokevirtual 302, 3) := by decide +kernel
theorem dd_X12_moveAll_65 : decode mb_X12_moveAll 65 = .ok (.istore_n 2, 1) := by decide +kernel
theorem dd_X12_moveAll_66 : decode mb_X12_moveAll 66 = .ok (.aload_n 0, 1) := by decide +kernel
theorem dd_X12_moveAll_67 : decode mb_X12_moveAll 67 = .ok (.aload_n 0, 1) := by decide +kernel
theorem dd_X12_moveAll_68 : decode mb_X12_moveAll 68 = .ok (.getfield 35, 3) := by decide +kernel
theorem dd_X12_moveAll_71 : decode mb_X12_moveAll 71 = .ok (.iload_n 2, 1) := by decide +kernel
theorem dd_X12_moveAll_72 : decode mb_X12_moveAll 72 = .ok (.iload_n 1, 1) := by decide +kernel
theorem dd_X12_moveAll_73 : decode mb_X12_moveAll 73 = .ok (.invokevirtual 302, 3) := by decide +kernel
theorem dd_X12_moveAll_76 : decode mb_X12_moveAll 76 = .ok (.istore_n 2, 1) := by decide +kernel
theorem dd_X12_moveAll_77 : decode mb_X12_moveAll 77 = .ok (.aload_n 0, 1) := by decide +kernel
theorem dd_X12_moveAll_78 : decode mb_X12_moveAll 78 = .ok (.aload_n 0, 1) := by decide +kernel
theorem dd_X12_moveAll_79 : decode mb_X12_moveAll 79 = .ok (.getfield 38, 3) := by decide +kernel
theorem dd_X12_moveAll_82 : decode mb_X12_moveAll 82 = .ok (.iload_n 2, 1) := by decide +kernel
theorem dd_X12_moveAll_83 : decode mb_X12_moveAll 83 = .ok (.iload_n 1, 1) := by decide +kernel
theorem dd_X12_moveAll_84 : decode mb_X12_moveAll 84 = .ok (.invokevirtual 302, 3) := by decide +kernel
theorem dd_X12_moveAll_87 : decode mb_X12_moveAll 87 = .ok (.istore_n 2, 1) := by decide +kernel
theorem dd_X12_moveAll_88 : decode mb_X12_moveAll 88 = .ok (.aload_n 0, 1) := by decide +kernel
theorem dd_X12_moveAll_89 : decode mb_X12_moveAll 89 = .ok (.aload_n 0, 1) := by decide +kernel
theorem dd_X12_moveAll_90 : decode mb_X12_moveAll 90 = .ok (.getfield 41, 3) := by decide +kernel
theorem dd_X12_moveAll_93 : decode mb_X12_moveAll 93 = .ok (.iload_n 2, 1) := by decide +kernel
theorem dd_X12_moveAll_94 : decode mb_X12_moveAll 94 = .ok (.iload_n 1, 1) := by decide +kernel
theorem dd_X12_moveAll_95 : decode mb_X12_moveAll 95 = .ok (.invokevirtual 302, 3) := by decide +kernel
theorem dd_X12_moveAll_98 : decode mb_X12_moveAll 98 = .ok (.istore_n 2, 1) := by decide +kernel
theorem dd_X12_moveAll_99 : decode mb_X12_moveAll 99 = .ok (.aload_n 0, 1) := by decide +kernel
theorem dd_X12_moveAll_100 : decode mb_X12_moveAll 100 = .ok (.aload_n 0, 1) := by decide +kernel
theorem dd_X12_moveAll_101 : decode mb_X12_moveAll 101 = .ok (.getfield 44, 3) := by decide +kernel
theorem dd_X12_moveAll_104 : decode mb_X12_moveAll 104 = .ok (.iload_n 2, 1) := by decide +kernel
theorem dd_X12_moveAll_105 : decode mb_X12_moveAll 105 = .ok (.iload_n 1, 1) := by decide +kernel
theorem dd_X12_moveAll_106 : decode mb_X12_moveAll 106 = .ok (.invokevirtual 302, 3) := by decide +kernel
theorem dd_X12_moveAll_109 : decode mb_X12_moveAll 109 = .ok (.istore_n 2, 1) := by decide +kernel
theorem dd_X12_moveAll_110 : decode mb_X12_moveAll 110 = .ok (.aload_n 0, 1) := by decide +kernel
theorem dd_X12_moveAll_111 : decode mb_X12_moveAll 111 = .ok (.aload_n 0, 1) := by decide +kernel
theorem dd_X12_moveAll_112 : decode mb_X12_moveAll 112 = .ok (.getfield 47, 3) := by decide +kernel
theorem dd_X12_moveAll_115 : decode mb_X12_moveAll 115 = .ok (.iload_n 2, 1) := by decide +kernel
theorem dd_X12_moveAll_116 : decode mb_X12_moveAll 116 = .ok (.iload_n 1, 1) := by decide +kernel
theorem dd_X12_moveAll_117 : decode mb_X12_moveAll 117 = .ok (.invokevirtual 302, 3) := by decide +kernel
theorem dd_X12_moveAll_120 : decode mb_X12_moveAll 120 = .ok (.istore_n 2, 1) := by decide +kernel
theorem dd_X12_moveAll_121 : decode mb_X12_moveAll 121 = .ok (.aload_n 0, 1) := by decide +kernel
theorem dd_X12_moveAll_122 : decode mb_X12_moveAll 122 = .ok (.aload_n 0, 1) := by decide +kernel
theorem dd_X12_moveAll_123 : decode mb_X12_moveAll 123 = .ok (.getfield 53, 3) := by decide +kernel
theorem dd_X12_moveAll_126 : decode mb_X12_moveAll 126 = .ok (.iload_n 2, 1) := by decide +kernel
theorem dd_X12_moveAll_127 : decode mb_X12_moveAll 127 = .ok (.iload_n 1, 1) := by decide +kernel
theorem dd_X12_moveAll_128 : decode mb_X12_moveAll 128 = .ok (.invokevirtual 302, 3) := by decide +kernel
theorem dd_X12_moveAll_131 : decode mb_X12_moveAll 131 = .ok (.istore_n 2, 1) := by decide +kernel
theorem dd_X12_moveAll_132 : decode mb_X12_moveAll 132 = .ok (.aload_n 0, 1) := by decide +kernel
theorem dd_X12_moveAll_133 : decode mb_X12_moveAll 133 = .ok (.aload_n 0, 1) := by decide +kernel
theorem dd_X12_moveAll_134 : decode mb_X12_moveAll 134 = .ok (.getfield 56, 3) := by decide +kernel
theorem dd_X12_moveAll_137 : decode mb_X12_moveAll 137 = .ok (.iload_n 2, 1) := by decide +kernel
theorem dd_X12_moveAll_138 : decode mb_X12_moveAll 138 = .ok (.iload_n 1, 1) := by decide +kernel
theorem dd_X12_moveAll_139 : decode mb_X12_moveAll 139 = .ok (.invokevirtual 302, 3) := by decide +kernel
theorem dd_X12_moveAll_142 : decode mb_X12_moveAll 142 = .ok (.istore_n 2, 1) := by decide +kernel
theorem dd_X12_moveAll_143 : decode mb_X12_moveAll 143 = .ok (.aload_n 0, 1) := by decide +kernel
theorem dd_X12_moveAll_144 : decode mb_X12_moveAll 144 = .ok (.aload_n 0, 1) := by decide +kernel
theorem dd_X12_moveAll_145 : decode mb_X12_moveAll 145 = .ok (.getfield 59, 3) := by decide +kernel
theorem dd_X12_moveAll_148 : decode mb_X12_moveAll 148 = .ok (.iload_n 2, 1) := by decide +kernel
theorem dd_X12_moveAll_149 : decode mb_X12_moveAll 149 = .ok (.iload_n 1, 1) := by decide +kernel
theorem dd_X12_moveAll_150 : decode mb_X12_moveAll 150 = .ok (.invokevirtual 302, 3) := by decide +kernel
theorem dd_X12_moveAll_153 : decode mb_X12_moveAll 153 = .ok (.istore_n 2, 1) := by decide +kernel
theorem dd_X12_moveAll_154 : decode mb_X12_moveAll 154 = .ok (.aload_n 0, 1) := by decide +kernel
theorem dd_X12_moveAll_155 : decode mb_X12_moveAll 155 = .ok (.aload_n 0, 1) := by decide +kernel
theorem dd_X12_moveAll_156 : decode mb_X12_moveAll 156 = .ok (.getfield 62, 3) := by decide +kernel
theorem dd_X12_moveAll_159 : decode mb_X12_moveAll 159 = .ok (.iload_n 2, 1) := by decide +kernel
theorem dd_X12_moveAll_160 : decode mb_X12_moveAll 160 = .ok (.iload_n 1, 1) := by decide +kernel
theorem dd_X12_moveAll_161 : decode mb_X12_moveAll 161 = .ok (.invokevirtual 302, 3) := by decide +kernel
theorem dd_X12_moveAll_164 : decode mb_X12_moveAll 164 = .ok (.istore_n 2, 1) := by decide +kernel
theorem dd_X12_moveAll_165 : decode mb_X12_moveAll 165 = .ok (.aload_n 0, 1) := by decide +kernel
theorem dd_X12_moveAll_166 : decode mb_X12_moveAll 166 = .ok (.aload_n 0, 1) := by decide +kernel
theorem dd_X12_moveAll_167 : decode mb_X12_moveAll 167 = .ok (.getfield 65, 3) := by decide +kernel
theorem dd_X12_moveAll_170 : decode mb_X12_moveAll 170 = .ok (.iload_n 2, 1) := by decide +kernel
theorem dd_X12_moveAll_171 : decode mb_X12_moveAll 171 = .ok (.iload_n 1, 1) := by decide +kernel
theorem dd_X12_moveAll_172 : decode mb_X12_moveAll 172 = .ok (.invokevirtual 302, 3) := by decide +kernel
theorem dd_X12_moveAll_175 : decode mb_X12_moveAll 175 = .ok (.istore_n 2, 1) := by decide +kernel
theorem dd_X12_moveAll_176 : decode mb_X12_moveAll 176 = .ok (.aload_n 0, 1) := by decide +kernel
theorem dd_X12_moveAll_177 : decode mb_X12_moveAll 177 = .ok (.aload_n 0, 1) := by decide +kernel
theorem dd_X12_moveAll_178 : decode mb_X12_moveAll 178 = .ok (.getfield 68, 3) := by decide +kernel
theorem dd_X12_moveAll_181 : decode mb_X12_moveAll 181 = .ok (.iload_n 2, 1) := by decide +kernel
theorem dd_X12_moveAll_182 : decode mb_X12_moveAll 182 = .ok (.iload_n 1, 1) := by decide +kernel
theorem dd_X12_moveAll_183 : decode mb_X12_moveAll 183 = .ok (.invokevirtual 302, 3) := by decide +kernel
theorem dd_X12_moveAll_186 : decode mb_X12_moveAll 186 = .ok (.istore_n 2, 1) := by decide +kernel
theorem dd_X12_moveAll_187 : decode mb_X12_moveAll 187 = .ok (.aload_n 0, 1) := by decide +kernel
theorem dd_X12_moveAll_188 : decode mb_X12_moveAll 188 = .ok (.aload_n 0, 1) := by decide +kernel
theorem dd_X12_moveAll_189 : decode mb_X12_moveAll 189 = .ok (.getfield 71, 3) := by decide +kernel
theorem dd_X12_moveAll_192 : decode mb_X12_moveAll 192 = .ok (.iload_n 2, 1) := by decide +kernel
theorem dd_X12_moveAll_193 : decode mb_X12_moveAll 193 = .ok (.iload_n 1, 1) := by decide +kernel
theorem dd_X12_moveAll_194 : decode mb_X12_moveAll 194 = .ok (.invokevirtual 302, 3) := by decide +kernel
theorem dd_X12_moveAll_197 : decode mb_X12_moveAll 197 = .ok (.istore_n 2, 1) := by decide +kernel
theorem dd_X12_moveAll_198 : decode mb_X12_moveAll 198 = .ok (.aload_n 0, 1) := by decide +kernel
theorem dd_X12_moveAll_199 : decode mb_X12_moveAll 199 = .ok (.aload_n 0, 1) := by decide +kernel
theorem dd_X12_moveAll_200 : decode mb_X12_moveAll 200 = .ok (.getfield 74, 3) := by decide +kernel
theorem dd_X12_moveAll_203 : decode mb_X12_moveAll 203 = .ok (.iload_n 2, 1) := by decide +kernel
theorem dd_X12_moveAll_204 : decode mb_X12_moveAll 204 = .ok (.iload_n 1, 1) := by decide +kernel
theorem dd_X12_moveAll_205 : decode mb_X12_moveAll 205 = .ok (.invokevirtual 302, 3) := by decide +kernel
theorem dd_X12_moveAll_208 : decode mb_X12_moveAll 208 = .ok (.istore_n 2, 1) := by decide +kernel
theorem dd_X12_moveAll_209 : decode mb_X12_moveAll 209 = .ok (.aload_n 0, 1) := by decide +kernel
theorem dd_X12_moveAll_210 : decode mb_X12_moveAll 210 = .ok (.aload_n 0, 1) := by decide +kernel
theorem dd_X12_moveAll_211 : decode mb_X12_moveAll 211 = .ok (.getfield 77, 3) := by decide +kernel
theorem dd_X12_moveAll_214 : decode mb_X12_moveAll 214 = .ok (.iload_n 2, 1) := by decide +kernel
theorem dd_X12_moveAll_215 : decode mb_X12_moveAll 215 = .ok (.iload_n 1, 1) := by decide +kernel
theorem dd_X12_moveAll_216 : decode mb_X12_moveAll 216 = .ok (.invokevirtual 302, 3) := by decide +kernel
theorem dd_X12_moveAll_219 : decode mb_X12_moveAll 219 = .ok (.istore_n 2, 1) := by decide +kernel
theorem dd_X12_moveAll_220 : decode mb_X12_moveAll 220 = .ok (.aload_n 0, 1) := by decide +kernel
theorem dd_X12_moveAll_221 : decode mb_X12_moveAll 221 = .ok (.aload_n 0, 1) := by decide +kernel
theorem dd_X12_moveAll_222 : decode mb_X12_moveAll 222 = .ok (.getfield 80, 3) := by decide +kernel
theorem dd_X12_moveAll_225 : decode mb_X12_moveAll 225 = .ok (.iload_n 2, 1) := by decide +kernel
theorem dd_X12_moveAll_226 : decode mb_X12_moveAll 226 = .ok (.iload_n 1, 1) := by decide +kernel
theorem dd_X12_moveAll_227 : decode mb_X12_moveAll 227 = .ok (.invokevirtual 302, 3) := by decide +kernel
theorem dd_X12_moveAll_230 : decode mb_X12_moveAll 230 = .ok (.istore_n 2, 1) := by decide +kernel
theorem dd_X12_moveAll_231 : decode mb_X12_moveAll 231 = .ok (.aload_n 0, 1) := by decide +kernel
theorem dd_X12_moveAll_232 : decode mb_X12_moveAll 232 = .ok (.aload_n 0, 1) := by decide +kernel
theorem dd_X12_moveAll_233 : decode mb_X12_moveAll 233 = .ok (.getfield 83, 3) := by decide +kernel
theorem dd_X12_moveAll_236 : decode mb_X12_moveAll 236 = .ok (.iload_n 2, 1) := by decide +kernel
theorem dd_X12_moveAll_237 : decode mb_X12_moveAll 237 = .ok (.iload_n 1, 1) := by decide +kernel
theorem dd_X12_moveAll_238 : decode mb_X12_moveAll 238 = .ok (.invokevirtual 302, 3) := by decide +kernel
theorem dd_X12_moveAll_241 : decode mb_X12_moveAll 241 = .ok (.istore_n 2, 1) := by decide +kernel
theorem dd_X12_moveAll_242 : decode mb_X12_moveAll 242 = .ok (.aload_n 0, 1) := by decide +kernel
theorem dd_X12_moveAll_243 : decode mb_X12_moveAll 243 = .ok (.aload_n 0, 1) := by decide +kernel
theorem dd_X12_moveAll_244 : decode mb_X12_moveAll 244 = .ok (.getfield 86, 3) := by decide +kernel
theorem dd_X12_moveAll_247 : decode mb_X12_moveAll 247 = .ok (.iload_n 2, 1) := by decide +kernel
theorem dd_X12_moveAll_248 : decode mb_X12_moveAll 248 = .ok (.iload_n 1, 1) := by decide +kernel
theorem dd_X12_moveAll_249 : decode mb_X12_moveAll 249 = .ok (.invokevirtual 302, 3) := by decide +kernel
theorem dd_X12_moveAll_252 : decode mb_X12_moveAll 252 = .ok (.istore_n 2, 1) := by decide +kernel
theorem dd_X12_moveAll_253 : decode mb_X12_moveAll 253 = .ok (.aload_n 0, 1) := by decide +kernel
theorem dd_X12_moveAll_254 : decode mb_X12_moveAll 254 = .ok (.aload_n 0, 1) := by decide +kernel
theorem dd_X12_moveAll_255 : decode mb_X12_moveAll 255 = .ok (.getfield 89, 3) := by decide +kernel
theorem dd_X12_moveAll_258 : decode mb_X12_moveAll 258 = .ok (.iload_n 2, 1) := by decide +kernel
theorem dd_X12_moveAll_259 : decode mb_X12_moveAll 259 = .ok (.iload_n 1, 1) := by decide +kernel
theorem dd_X12_moveAll_260 : decode mb_X12_moveAll 260 = .ok (.invokevirtual 302, 3) := by decide +kernel
theorem dd_X12_moveAll_263 : decode mb_X12_moveAll 263 = .ok (.istore_n 2, 1) := by decide +kernel
theorem dd_X12_moveAll_264 : decode mb_X12_moveAll 264 = .ok (.aload_n 0, 1) := by decide +kernel
theorem dd_X12_moveAll_265 : decode mb_X12_moveAll 265 = .ok (.aload_n 0, 1) := by decide +kernel
theorem dd_X12_moveAll_266 : decode mb_X12_moveAll 266 = .ok (.getfield 92, 3) := by decide +kernel
theorem dd_X12_moveAll_269 : decode mb_X12_moveAll 269 = .ok (.iload_n 2, 1) := by decide +kernel
theorem dd_X12_moveAll_270 : decode mb_X12_moveAll 270 = .ok (.iload_n 1, 1) := by decide +kernel
theorem dd_X12_moveAll_271 : decode mb_X12_moveAll 271 = .ok (.invokevirtual 302, 3) := by decide +kernel
theorem dd_X12_moveAll_274 : decode mb_X12_moveAll 274 = .ok (.pop, 1) := by decide +kernel
theorem dd_X12_moveAll_275 : decode mb_X12_moveAll 275 = .ok (.return_, 1) := by decide +kernel
theorem dd_X12_no_0 : decode mb_X12_no 0 = .ok (.aload_n 0, 1) := by decide +kernel
theorem dd_X12_no_1 : decode mb_X12_no 1 = .ok (.getfield 95, 3) := by decide +kernel
theorem dd_X12_no_4 : decode mb_X12_no 4 = .ok (.iload_n 1, 1) := by decide +kernel
theorem dd_X12_no_5 : decode mb_X12_no 5 = .ok (.ineg, 1) := by decide +kernel
theorem dd_X12_no_6 : decode mb_X12_no 6 = .ok (.dup2, 1) := by decide +kernel
theorem dd_X12_no_7 : decode mb_X12_no 7 = .ok (.iaload, 1) := by decide +kernel
theorem dd_X12_no_8 : decode mb_X12_no 8 = .ok (.iconst 1, 1) := by decide +kernel
theorem dd_X12_no_9 : decode mb_X12_no 9 = .ok (.iadd, 1) := by decide +kernel
theorem dd_X12_no_10 : decode mb_X12_no 10 = .ok (.iastore, 1) := by decide +kernel
theorem dd_X12_no_11 : decode mb_X12_no 11 = .ok (.iload_n 1, 1) := by decide +kernel
theorem dd_X12_no_12 : decode mb_X12_no 12 = .ok (.ireturn, 1) := by decide +kernel
theorem dd_X12_noRow_0 : decode mb_X12_noRow 0 = .ok (.aload_n 0, 1) := by decide +kernel
theorem dd_X12_noRow_1 : decode mb_X12_noRow 1 = .ok (.iload_n 1, 1) := by decide +kernel
theorem dd_X12_noRow_2 : decode mb_X12_noRow 2 = .ok (.invokevirtual 148, 3) := by decide +kernel
theorem dd_X12_noRow_5 : decode mb_X12_noRow 5 = .ok (.ifCond .ne 6, 3) := by decide +kernel
theorem dd_X12_noRow_8 : decode mb_X12_noRow 8 = .ok (.bipush (-2), 2) := by decide +kernel
theorem dd_X12_noRow_10 : decode mb_X12_noRow 10 = .ok (.ireturn, 1) := by decide +kernel
theorem dd_X12_noRow_11 : decode mb_X12_noRow 11 = .ok (.aload_n 0, 1) := by decide +kernel
theorem dd_X12_noRow_12 : decode mb_X12_noRow 12 = .ok (.iload_n 1, 1) := by decide +kernel
theorem dd_X12_noRow_13 : decode mb_X12_noRow 13 = .ok (.invokevirtual 156, 3) := by decide +kernel
theorem dd_X12_noRow_16 : decode mb_X12_noRow 16 = .ok (.ifCond .eq 6, 3) := by decide +kernel
theorem dd_X12_noRow_22 : decode mb_X12_noRow 22 = .ok (.aload_n 0, 1) := by decide +kernel
theorem dd_X12_noRow_23 : decode mb_X12_noRow 23 = .ok (.getfield 7, 3) := by decide +kernel
theorem dd_X12_noRow_26 : decode mb_X12_noRow 26 = .ok (.iload_n 1, 1) := by decide +kernel
theorem dd_X12_noRow_27 : decode mb_X12_noRow 27 = .ok (.iaload, 1) := by decide +kernel
theorem dd_X12_noRow_28 : decode mb_X12_noRow 28 = .ok (.ifCond .ge 8, 3) := by decide +kernel
theorem dd_X12_noRow_31 : decode mb_X12_noRow 31 = .ok (.bipush (-4), 2) := by decide +kernel
theorem dd_X12_noRow_33 : decode mb_X12_noRow 33 = .ok (.goto 4, 3) := by decide +kernel
theorem dd_X12_noRow_37 : decode mb_X12_noRow 37 = .ok (.ireturn, 1) := by decide +kernel
theorem dd_X12_price_0 : decode mb_X12_price 0 = .ok (.aload_n 0, 1) := by decide +kernel
theorem dd_X12_price_1 : decode mb_X12_price 1 = .ok (.iload_n 1, 1) := by decide +kernel
theorem dd_X12_price_2 : decode mb_X12_price 2 = .ok (.invokevirtual 193, 3) := by decide +kernel
theorem dd_X12_price_5 : decode mb_X12_price 5 = .ok (.ifCond .eq 11, 3) := by decide +kernel
theorem dd_X12_price_16 : decode mb_X12_price 16 = .ok (.aload_n 0, 1) := by decide +kernel
theorem dd_X12_price_17 : decode mb_X12_price 17 = .ok (.bipush (-2), 2) := by decide +kernel
theorem dd_X12_price_19 : decode mb_X12_price 19 = .ok (.invokevirtual 152, 3) := by decide +kernel
theorem dd_X12_price_22 : decode mb_X12_price 22 = .ok (.ireturn, 1) := by decide +kernel
theorem dd_X12_rest_0 : decode mb_X12_rest 0 = .ok (.iload_n 1, 1) := by decide +kernel
theorem dd_X12_rest_1 : decode mb_X12_rest 1 = .ok (.iconst (-1), 1) := by decide +kernel
theorem dd_X12_rest_2 : decode mb_X12_rest 2 = .ok (.if_icmp .eq 18, 3) := by decide +kernel
theorem dd_X12_rest_5 : decode mb_X12_rest 5 = .ok (.aload_n 0, 1) := by decide +kernel
theorem dd_X12_rest_6 : decode mb_X12_rest 6 = .ok (.iload_n 1, 1) := by decide +kernel
theorem dd_X12_rest_7 : decode mb_X12_rest 7 = .ok (.invokevirtual 168, 3) := by decide +kernel
theorem dd_X12_rest_10 : decode mb_X12_rest 10 = .ok (.ifCond .ne 10, 3) := by decide +kernel
theorem dd_X12_rest_13 : decode mb_X12_rest 13 = .ok (.aload_n 0, 1) := by decide +kernel
theorem dd_X12_rest_14 : decode mb_X12_rest 14 = .ok (.bipush (-2), 2) := by decide +kernel
theorem dd_X12_rest_16 : decode mb_X12_rest 16 = .ok (.invokevirtual 152, 3) := by decide +kernel
theorem dd_X12_rest_19 : decode mb_X12_rest 19 = .ok (.ireturn, 1) := by decide +kernel
theorem dd_X12_rest_20 : decode mb_X12_rest 20 = .ok (.iconst 0, 1) := by decide +kernel
theorem dd_X12_rest_21 : decode mb_X12_rest 21 = .ok (.istore_n 2, 1) := by decide +kernel
theorem dd_X12_rest_22 : decode mb_X12_rest 22 = .ok (.iconst 0, 1) := by decide +kernel
theorem dd_X12_rest_23 : decode mb_X12_rest 23 = .ok (.istore_n 3, 1) := by decide +kernel
theorem dd_X12_rest_24 : decode mb_X12_rest 24 = .ok (.iload_n 3, 1) := by decide +kernel
theorem dd_X12_rest_25 : decode mb_X12_rest 25 = .ok (.aload_n 0, 1) := by decide +kernel
theorem dd_X12_rest_26 : decode mb_X12_rest 26 = .ok (.getfield 135, 3) := by decide +kernel
theorem dd_X12_rest_29 : decode mb_X12_rest 29 = .ok (.if_icmp .ge 40, 3) := by decide +kernel
theorem dd_X12_rest_69 : decode mb_X12_rest 69 = .ok (.iload_n 2, 1) := by decide +kernel
theorem dd_X12_rest_70 : decode mb_X12_rest 70 = .ok (.ireturn, 1) := by decide +kernel
theorem dd_X12_row_0 : decode mb_X12_row 0 = .ok (.aload_n 0, 1) := by decide +kernel
theorem dd_X12_row_1 : decode mb_X12_row 1 = .ok (.iload_n 1, 1) := by decide +kernel
theorem dd_X12_row_2 : decode mb_X12_row 2 = .ok (.invokevirtual 148, 3) := by decide +kernel
theorem dd_X12_row_5 : decode mb_X12_row 5 = .ok (.ifCond .eq 22, 3) := by decide +kernel
theorem dd_X12_row_8 : decode mb_X12_row 8 = .ok (.iload_n 2, 1) := by decide +kernel
theorem dd_X12_row_9 : decode mb_X12_row 9 = .ok (.ifCond .lt 18, 3) := by decide +kernel
theorem dd_X12_row_12 : decode mb_X12_row 12 = .ok (.iload_n 2, 1) := by decide +kernel
theorem dd_X12_row_13 : decode mb_X12_row 13 = .ok (.iconst 4, 1) := by decide +kernel
theorem dd_X12_row_14 : decode mb_X12_row 14 = .ok (.if_icmp .gt 13, 3) := by decide +kernel
theorem dd_X12_row_17 : decode mb_X12_row 17 = .ok (.iload_n 3, 1) := by decide +kernel
theorem dd_X12_row_18 : decode mb_X12_row 18 = .ok (.ifCond .lt 9, 3) := by decide +kernel
theorem dd_X12_row_21 : decode mb_X12_row 21 = .ok (.iload_n 3, 1) := by decide +kernel
theorem dd_X12_row_22 : decode mb_X12_row 22 = .ok (.bipush 40, 2) := by decide +kernel
theorem dd_X12_row_24 : decode mb_X12_row 24 = .ok (.if_icmp .le 10, 3) := by decide +kernel
theorem dd_X12_row_27 : decode mb_X12_row 27 = .ok (.aload_n 0, 1) := by decide +kernel
theorem dd_X12_row_28 : decode mb_X12_row 28 = .ok (.bipush (-2), 2) := by decide +kernel
theorem dd_X12_row_30 : decode mb_X12_row 30 = .ok (.invokevirtual 152, 3) := by decide +kernel
theorem dd_X12_row_33 : decode mb_X12_row 33 = .ok (.ireturn, 1) := by decide +kernel
theorem dd_X12_row_34 : decode mb_X12_row 34 = .ok (.aload_n 0, 1) := by decide +kernel
theorem dd_X12_row_35 : decode mb_X12_row 35 = .ok (.getfield 7, 3) := by decide +kernel
theorem dd_X12_row_38 : decode mb_X12_row 38 = .ok (.iload_n 1, 1) := by decide +kernel
theorem dd_X12_row_39 : decode mb_X12_row 39 = .ok (.bipush 100, 2) := by decide +kernel
theorem dd_X12_row_41 : decode mb_X12_row 41 = .ok (.iload_n 2, 1) := by decide +kernel
theorem dd_X12_row_42 : decode mb_X12_row 42 = .ok (.iadd, 1) := by decide +kernel
theorem dd_X12_row_43 : decode mb_X12_row 43 = .ok (.iastore, 1) := by decide +kernel
theorem dd_X12_row_44 : decode mb_X12_row 44 = .ok (.aload_n 0, 1) := by decide +kernel
theorem dd_X12_row_45 : decode mb_X12_row 45 = .ok (.getfield 13, 3) := by decide +kernel
theorem dd_X12_row_48 : decode mb_X12_row 48 = .ok (.iload_n 1, 1) := by decide +kernel
theorem dd_X12_row_49 : decode mb_X12_row 49 = .ok (.iload_n 3, 1) := by decide +kernel
theorem dd_X12_row_50 : decode mb_X12_row 50 = .ok (.iastore, 1) := by decide +kernel
theorem dd_X12_row_51 : decode mb_X12_row 51 = .ok (.iconst 0, 1) := by decide +kernel
theorem dd_X12_row_52 : decode mb_X12_row 52 = .ok (.istore 4, 2) := by decide +kernel
theorem dd_X12_row_54 : decode mb_X12_row 54 = .ok (.iload 4, 2) := by decide +kernel
theorem dd_X12_row_56 : decode mb_X12_row 56 = .ok (.bipush 40, 2) := by decide +kernel
theorem dd_X12_row_58 : decode mb_X12_row 58 = .ok (.if_icmp .ge 22, 3) := by decide +kernel
theorem dd_X12_row_61 : decode mb_X12_row 61 = .ok (.aload_n 0, 1) := by decide +kernel
theorem dd_X12_row_62 : decode mb_X12_row 62 = .ok (.getfield 16, 3) := by decide +kernel
theorem dd_X12_row_65 : decode mb_X12_row 65 = .ok (.bipush 40, 2) := by decide +kernel
theorem dd_X12_row_67 : decode mb_X12_row 67 = .ok (.iload_n 1, 1) := by decide +kernel
theorem dd_X12_row_68 : decode mb_X12_row 68 = .ok (.imul, 1) := by decide +kernel
theorem dd_X12_row_69 : decode mb_X12_row 69 = .ok (.iload 4, 2) := by decide +kernel
theorem dd_X12_row_71 : decode mb_X12_row 71 = .ok (.iadd, 1) := by decide +kernel
theorem dd_X12_row_72 : decode mb_X12_row 72 = .ok (.lconst 0, 1) := by decide +kernel
theorem dd_X12_row_73 : decode mb_X12_row 73 = .ok (.lastore, 1) := by decide +kernel
theorem dd_X12_row_74 : decode mb_X12_row 74 = .ok (.iinc 4 1, 3) := by decide +kernel
theorem dd_X12_row_77 : decode mb_X12_row 77 = .ok (.goto (-23), 3) := by decide +kernel
theorem dd_X12_row_80 : decode mb_X12_row 80 = .ok (.iconst 1, 1) := by decide +kernel
theorem dd_X12_row_81 : decode mb_X12_row 81 = .ok (.ireturn, 1) := by decide +kernel
theorem dd_X12_same_0 : decode mb_X12_same 0 = .ok (.iload_n 1, 1) := by decide +kernel
theorem dd_X12_same_1 : decode mb_X12_same 1 = .ok (.ifCond .lt 23, 3) := by decide +kernel
theorem dd_X12_same_4 : decode mb_X12_same 4 = .ok (.iload_n 1, 1) := by decide +kernel
theorem dd_X12_same_5 : decode mb_X12_same 5 = .ok (.aload_n 0, 1) := by decide +kernel
theorem dd_X12_same_6 : decode mb_X12_same 6 = .ok (.getfield 279, 3) := by decide +kernel
theorem dd_X12_same_9 : decode mb_X12_same 9 = .ok (.if_icmp .ge 15, 3) := by decide +kernel
theorem dd_X12_same_24 : decode mb_X12_same 24 = .ok (.aload_n 0, 1) := by decide +kernel
theorem dd_X12_same_25 : decode mb_X12_same 25 = .ok (.bipush (-2), 2) := by decide +kernel
theorem dd_X12_same_27 : decode mb_X12_same 27 = .ok (.invokevirtual 152, 3) := by decide +kernel
theorem dd_X12_same_30 : decode mb_X12_same 30 = .ok (.ireturn, 1) := by decide +kernel
theorem dd_X12_says_0 : decode mb_X12_says 0 = .ok (.aload_n 0, 1) := by decide +kernel
theorem dd_X12_says_1 : decode mb_X12_says 1 = .ok (.iload_n 1, 1) := by decide +kernel
theorem dd_X12_says_2 : decode mb_X12_says 2 = .ok (.invokevirtual 148, 3) := by decide +kernel
theorem dd_X12_says_5 : decode mb_X12_says 5 = .ok (.ifCond .eq 11, 3) := by decide +kernel
theorem dd_X12_says_8 : decode mb_X12_says 8 = .ok (.aload_n 0, 1) := by decide +kernel
theorem dd_X12_says_9 : decode mb_X12_says 9 = .ok (.iload_n 2, 1) := by decide +kernel
theorem dd_X12_says_10 : decode mb_X12_says 10 = .ok (.invokevirtual 168, 3) := by decide +kernel
theorem dd_X12_says_13 : decode mb_X12_says 13 = .ok (.ifCond .ne 10, 3) := by decide +kernel
theorem dd_X12_says_16 : decode mb_X12_says 16 = .ok (.aload_n 0, 1) := by decide +kernel
theorem dd_X12_says_17 : decode mb_X12_says 17 = .ok (.bipush (-2), 2) := by decide +kernel
theorem dd_X12_says_19 : decode mb_X12_says 19 = .ok (.invokevirtual 152, 3) := by decide +kernel
theorem dd_X12_says_22 : decode mb_X12_says 22 = .ok (.ireturn, 1) := by decide +kernel
theorem dd_X12_says_23 : decode mb_X12_says 23 = .ok (.aload_n 0, 1) := by decide +kernel
theorem dd_X12_says_24 : decode mb_X12_says 24 = .ok (.iload_n 1, 1) := by decide +kernel
theorem dd_X12_says_25 : decode mb_X12_says 25 = .ok (.invokevirtual 162, 3) := by decide +kernel
theorem dd_X12_says_28 : decode mb_X12_says 28 = .ok (.ifCond .eq 10, 3) := by decide +kernel
theorem dd_X12_says_38 : decode mb_X12_says 38 = .ok (.aload_n 0, 1) := by decide +kernel
theorem dd_X12_says_39 : decode mb_X12_says 39 = .ok (.getfield 7, 3) := by decide +kernel
theorem dd_X12_says_42 : decode mb_X12_says 42 = .ok (.iload_n 1, 1) := by decide +kernel
theorem dd_X12_says_43 : decode mb_X12_says 43 = .ok (.iaload, 1) := by decide +kernel
theorem dd_X12_says_44 : decode mb_X12_says 44 = .ok (.ifCond .ge 10, 3) := by decide +kernel
theorem dd_X12_says_47 : decode mb_X12_says 47 = .ok (.aload_n 0, 1) := by decide +kernel
theorem dd_X12_says_48 : decode mb_X12_says 48 = .ok (.bipush (-4), 2) := by decide +kernel
theorem dd_X12_says_50 : decode mb_X12_says 50 = .ok (.invokevirtual 152, 3) := by decide +kernel
theorem dd_X12_says_53 : decode mb_X12_says 53 = .ok (.ireturn, 1) := by decide +kernel
theorem dd_X12_secret_0 : decode mb_X12_secret 0 = .ok (.aload_n 0, 1) := by decide +kernel
theorem dd_X12_secret_1 : decode mb_X12_secret 1 = .ok (.iload_n 1, 1) := by decide +kernel
theorem dd_X12_secret_2 : decode mb_X12_secret 2 = .ok (.invokevirtual 165, 3) := by decide +kernel
theorem dd_X12_secret_5 : decode mb_X12_secret 5 = .ok (.ifCond .eq 11, 3) := by decide +kernel
theorem dd_X12_secret_16 : decode mb_X12_secret 16 = .ok (.aload_n 0, 1) := by decide +kernel
theorem dd_X12_secret_17 : decode mb_X12_secret 17 = .ok (.bipush (-2), 2) := by decide +kernel
theorem dd_X12_secret_19 : decode mb_X12_secret 19 = .ok (.invokevirtual 152, 3) := by decide +kernel
theorem dd_X12_secret_22 : decode mb_X12_secret 22 = .ok (.ireturn, 1) := by decide +kernel
theorem dd_X12_set_0 : decode mb_X12_set 0 = .ok (.aload_n 0, 1) := by decide +kernel
theorem dd_X12_set_1 : decode mb_X12_set 1 = .ok (.iload_n 1, 1) := by decide +kernel
theorem dd_X12_set_2 : decode mb_X12_set 2 = .ok (.invokevirtual 159, 3) := by decide +kernel
theorem dd_X12_set_5 : decode mb_X12_set 5 = .ok (.istore 5, 2) := by decide +kernel
theorem dd_X12_set_7 : decode mb_X12_set 7 = .ok (.iload 5, 2) := by decide +kernel
theorem dd_X12_set_9 : decode mb_X12_set 9 = .ok (.ifCond .ge 10, 3) := by decide +kernel
theorem dd_X12_set_12 : decode mb_X12_set 12 = .ok (.aload_n 0, 1) := by decide +kernel
theorem dd_X12_set_13 : decode mb_X12_set 13 = .ok (.iload 5, 2) := by decide +kernel
theorem dd_X12_set_15 : decode mb_X12_set 15 = .ok (.invokevirtual 152, 3) := by decide +kernel
theorem dd_X12_set_18 : decode mb_X12_set 18 = .ok (.ireturn, 1) := by decide +kernel
theorem dd_X12_shortBy_0 : decode mb_X12_shortBy 0 = .ok (.iload_n 1, 1) := by decide +kernel
theorem dd_X12_shortBy_1 : decode mb_X12_shortBy 1 = .ok (.iconst 1, 1) := by decide +kernel
theorem dd_X12_shortBy_2 : decode mb_X12_shortBy 2 = .ok (.if_icmp .lt 10, 3) := by decide +kernel
theorem dd_X12_shortBy_5 : decode mb_X12_shortBy 5 = .ok (.iload_n 1, 1) := by decide +kernel
theorem dd_X12_shortBy_6 : decode mb_X12_shortBy 6 = .ok (.sipush 9999, 3) := by decide +kernel
theorem dd_X12_shortBy_9 : decode mb_X12_shortBy 9 = .ok (.if_icmp .le 10, 3) := by decide +kernel
theorem dd_X12_shortBy_12 : decode mb_X12_shortBy 12 = .ok (.aload_n 0, 1) := by decide +kernel
theorem dd_X12_shortBy_13 : decode mb_X12_shortBy 13 = .ok (.bipush (-2), 2) := by decide +kernel
theorem dd_X12_shortBy_15 : decode mb_X12_shortBy 15 = .ok (.invokevirtual 152, 3) := by decide +kernel
theorem dd_X12_shortBy_18 : decode mb_X12_shortBy 18 = .ok (.ireturn, 1) := by decide +kernel
theorem dd_X12_shortBy_19 : decode mb_X12_shortBy 19 = .ok (.aload_n 0, 1) := by decide +kernel
theorem dd_X12_shortBy_20 : decode mb_X12_shortBy 20 = .ok (.getfield 294, 3) := by decide +kernel
theorem dd_X12_shortBy_23 : decode mb_X12_shortBy 23 = .ok (.ifnonnull 12, 3) := by decide +kernel
theorem dd_X12_shortBy_26 : decode mb_X12_shortBy 26 = .ok (.aload_n 0, 1) := by decide +kernel
theorem dd_X12_shortBy_27 : decode mb_X12_shortBy 27 = .ok (.ldc_w 298, 3) := by decide +kernel
theorem dd_X12_shortBy_30 : decode mb_X12_shortBy 30 = .ok (.newarray .byte, 2) := by decide +kernel
theorem dd_X12_shortBy_32 : decode mb_X12_shortBy 32 = .ok (.putfield 294, 3) := by decide +kernel
theorem dd_X12_shortBy_35 : decode mb_X12_shortBy 35 = .ok (.iconst 0, 1) := by decide +kernel
theorem dd_X12_shortBy_36 : decode mb_X12_shortBy 36 = .ok (.istore_n 2, 1) := by decide +kernel
theorem dd_X12_shortBy_37 : decode mb_X12_shortBy 37 = .ok (.iload_n 2, 1) := by decide +kernel
theorem dd_X12_shortBy_38 : decode mb_X12_shortBy 38 = .ok (.iload_n 1, 1) := by decide +kernel
theorem dd_X12_shortBy_39 : decode mb_X12_shortBy 39 = .ok (.if_icmp .gt 26, 3) := by decide +kernel
theorem dd_X12_shortBy_42 : decode mb_X12_shortBy 42 = .ok (.aload_n 0, 1) := by decide +kernel
theorem dd_X12_shortBy_43 : decode mb_X12_shortBy 43 = .ok (.getfield 294, 3) := by decide +kernel
theorem dd_X12_shortBy_46 : decode mb_X12_shortBy 46 = .ok (.iload_n 2, 1) := by decide +kernel
theorem dd_X12_shortBy_47 : decode mb_X12_shortBy 47 = .ok (.iload_n 2, 1) := by decide +kernel
theorem dd_X12_shortBy_48 : decode mb_X12_shortBy 48 = .ok (.ifCond .ne 7, 3) := by decide +kernel
theorem dd_X12_shortBy_51 : decode mb_X12_shortBy 51 = .ok (.iconst 0, 1) := by decide +kernel
theorem dd_X12_shortBy_52 : decode mb_X12_shortBy 52 = .ok (.goto 5, 3) := by decide +kernel
theorem dd_X12_shortBy_55 : decode mb_X12_shortBy 55 = .ok (.bipush 99, 2) := by decide +kernel
theorem dd_X12_shortBy_57 : decode mb_X12_shortBy 57 = .ok (.i2b, 1) := by decide +kernel
theorem dd_X12_shortBy_58 : decode mb_X12_shortBy 58 = .ok (.bastore, 1) := by decide +kernel
theorem dd_X12_shortBy_59 : decode mb_X12_shortBy 59 = .ok (.iinc 2 1, 3) := by decide +kernel
theorem dd_X12_shortBy_62 : decode mb_X12_shortBy 62 = .ok (.goto (-25), 3) := by decide +kernel
theorem dd_X12_shortBy_65 : decode mb_X12_shortBy 65 = .ok (.iconst 0, 1) := by decide +kernel
theorem dd_X12_shortBy_66 : decode mb_X12_shortBy 66 = .ok (.istore_n 2, 1) := by decide +kernel
theorem dd_X12_shortBy_67 : decode mb_X12_shortBy 67 = .ok (.iload_n 2, 1) := by decide +kernel
theorem dd_X12_shortBy_68 : decode mb_X12_shortBy 68 = .ok (.aload_n 0, 1) := by decide +kernel
theorem dd_X12_shortBy_69 : decode mb_X12_shortBy 69 = .ok (.getfield 135, 3) := by decide +kernel
theorem dd_X12_shortBy_72 : decode mb_X12_shortBy 72 = .ok (.if_icmp .ge 129, 3) := by decide +kernel
theorem dd_X12_shortBy_201 : decode mb_X12_shortBy 201 = .ok (.aload_n 0, 1) := by decide +kernel
theorem dd_X12_shortBy_202 : decode mb_X12_shortBy 202 = .ok (.getfield 294, 3) := by decide +kernel
theorem dd_X12_shortBy_205 : decode mb_X12_shortBy 205 = .ok (.sipush 10000, 3) := by decide +kernel
theorem dd_X12_shortBy_208 : decode mb_X12_shortBy 208 = .ok (.aload_n 0, 1) := by decide +kernel
theorem dd_X12_shortBy_209 : decode mb_X12_shortBy 209 = .ok (.getfield 135, 3) := by decide +kernel
theorem dd_X12_shortBy_212 : decode mb_X12_shortBy 212 = .ok (.imul, 1) := by decide +kernel
theorem dd_X12_shortBy_213 : decode mb_X12_shortBy 213 = .ok (.iload_n 1, 1) := by decide +kernel
theorem dd_X12_shortBy_214 : decode mb_X12_shortBy 214 = .ok (.iadd, 1) := by decide +kernel
theorem dd_X12_shortBy_215 : decode mb_X12_shortBy 215 = .ok (.baload, 1) := by decide +kernel
theorem dd_X12_shortBy_216 : decode mb_X12_shortBy 216 = .ok (.bipush 99, 2) := by decide +kernel
theorem dd_X12_shortBy_218 : decode mb_X12_shortBy 218 = .ok (.if_icmp .ne 5, 3) := by decide +kernel
theorem dd_X12_shortBy_221 : decode mb_X12_shortBy 221 = .ok (.iconst (-1), 1) := by decide +kernel
theorem dd_X12_shortBy_222 : decode mb_X12_shortBy 222 = .ok (.ireturn, 1) := by decide +kernel
theorem dd_X12_show_0 : decode mb_X12_show 0 = .ok (.aload_n 0, 1) := by decide +kernel
theorem dd_X12_show_1 : decode mb_X12_show 1 = .ok (.iload_n 1, 1) := by decide +kernel
theorem dd_X12_show_2 : decode mb_X12_show 2 = .ok (.invokevirtual 148, 3) := by decide +kernel
theorem dd_X12_show_5 : decode mb_X12_show 5 = .ok (.ifCond .eq 16, 3) := by decide +kernel
theorem dd_X12_show_8 : decode mb_X12_show 8 = .ok (.iload_n 2, 1) := by decide +kernel
theorem dd_X12_show_9 : decode mb_X12_show 9 = .ok (.iconst (-1), 1) := by decide +kernel
theorem dd_X12_show_10 : decode mb_X12_show 10 = .ok (.if_icmp .eq 18, 3) := by decide +kernel
theorem dd_X12_show_13 : decode mb_X12_show 13 = .ok (.aload_n 0, 1) := by decide +kernel
theorem dd_X12_show_14 : decode mb_X12_show 14 = .ok (.iload_n 2, 1) := by decide +kernel
theorem dd_X12_show_15 : decode mb_X12_show 15 = .ok (.invokevirtual 165, 3) := by decide +kernel
theorem dd_X12_show_18 : decode mb_X12_show 18 = .ok (.ifCond .ne 10, 3) := by decide +kernel
theorem dd_X12_show_21 : decode mb_X12_show 21 = .ok (.aload_n 0, 1) := by decide +kernel
theorem dd_X12_show_22 : decode mb_X12_show 22 = .ok (.bipush (-2), 2) := by decide +kernel
theorem dd_X12_show_24 : decode mb_X12_show 24 = .ok (.invokevirtual 152, 3) := by decide +kernel
theorem dd_X12_show_27 : decode mb_X12_show 27 = .ok (.ireturn, 1) := by decide +kernel
theorem dd_X12_show_28 : decode mb_X12_show 28 = .ok (.aload_n 0, 1) := by decide +kernel
theorem dd_X12_show_29 : decode mb_X12_show 29 = .ok (.getfield 7, 3) := by decide +kernel
theorem dd_X12_show_32 : decode mb_X12_show 32 = .ok (.iload_n 1, 1) := by decide +kernel
theorem dd_X12_show_33 : decode mb_X12_show 33 = .ok (.iload_n 2, 1) := by decide +kernel
theorem dd_X12_show_34 : decode mb_X12_show 34 = .ok (.iastore, 1) := by decide +kernel
theorem dd_X12_show_35 : decode mb_X12_show 35 = .ok (.iconst 1, 1) := by decide +kernel
theorem dd_X12_show_36 : decode mb_X12_show 36 = .ok (.ireturn, 1) := by decide +kernel
theorem dd_X12_shown_0 : decode mb_X12_shown 0 = .ok (.iload_n 1, 1) := by decide +kernel
theorem dd_X12_shown_1 : decode mb_X12_shown 1 = .ok (.ifCond .lt 10, 3) := by decide +kernel
theorem dd_X12_shown_4 : decode mb_X12_shown 4 = .ok (.iload_n 1, 1) := by decide +kernel
theorem dd_X12_shown_5 : decode mb_X12_shown 5 = .ok (.sipush 200, 3) := by decide +kernel
theorem dd_X12_shown_8 : decode mb_X12_shown 8 = .ok (.if_icmp .le 10, 3) := by decide +kernel
theorem dd_X12_shown_11 : decode mb_X12_shown 11 = .ok (.aload_n 0, 1) := by decide +kernel
theorem dd_X12_shown_12 : decode mb_X12_shown 12 = .ok (.bipush (-2), 2) := by decide +kernel
theorem dd_X12_shown_14 : decode mb_X12_shown 14 = .ok (.invokevirtual 152, 3) := by decide +kernel
theorem dd_X12_shown_17 : decode mb_X12_shown 17 = .ok (.ireturn, 1) := by decide +kernel
theorem dd_X12_shown_18 : decode mb_X12_shown 18 = .ok (.iconst 0, 1) := by decide +kernel
theorem dd_X12_shown_19 : decode mb_X12_shown 19 = .ok (.istore_n 2, 1) := by decide +kernel
theorem dd_X12_shown_20 : decode mb_X12_shown 20 = .ok (.iload_n 2, 1) := by decide +kernel
theorem dd_X12_shown_21 : decode mb_X12_shown 21 = .ok (.iload_n 1, 1) := by decide +kernel
theorem dd_X12_shown_22 : decode mb_X12_shown 22 = .ok (.if_icmp .gt 16, 3) := by decide +kernel
theorem dd_X12_shown_25 : decode mb_X12_shown 25 = .ok (.aload_n 0, 1) := by decide +kernel
theorem dd_X12_shown_26 : decode mb_X12_shown 26 = .ok (.getfield 111, 3) := by decide +kernel
theorem dd_X12_shown_29 : decode mb_X12_shown 29 = .ok (.iload_n 2, 1) := by decide +kernel
theorem dd_X12_shown_30 : decode mb_X12_shown 30 = .ok (.iconst 0, 1) := by decide +kernel
theorem dd_X12_shown_31 : decode mb_X12_shown 31 = .ok (.iastore, 1) := by decide +kernel
theorem dd_X12_shown_32 : decode mb_X12_shown 32 = .ok (.iinc 2 1, 3) := by decide +kernel
theorem dd_X12_shown_35 : decode mb_X12_shown 35 = .ok (.goto (-15), 3) := by decide +kernel
theorem dd_X12_shown_38 : decode mb_X12_shown 38 = .ok (.iconst 0, 1) := by decide +kernel
theorem dd_X12_shown_39 : decode mb_X12_shown 39 = .ok (.istore_n 2, 1) := by decide +kernel
theorem dd_X12_shown_40 : decode mb_X12_shown 40 = .ok (.iload_n 2, 1) := by decide +kernel
theorem dd_X12_shown_41 : decode mb_X12_shown 41 = .ok (.aload_n 0, 1) := by decide +kernel
theorem dd_X12_shown_42 : decode mb_X12_shown 42 = .ok (.getfield 135, 3) := by decide +kernel
theorem dd_X12_shown_45 : decode mb_X12_shown 45 = .ok (.if_icmp .ge 148, 3) := by decide +kernel
theorem dd_X12_shown_193 : decode mb_X12_shown 193 = .ok (.iconst 0, 1) := by decide +kernel
theorem dd_X12_shown_194 : decode mb_X12_shown 194 = .ok (.istore_n 2, 1) := by decide +kernel
theorem dd_X12_shown_195 : decode mb_X12_shown 195 = .ok (.iload_n 1, 1) := by decide +kernel
theorem dd_X12_shown_196 : decode mb_X12_shown 196 = .ok (.istore_n 3, 1) := by decide +kernel
theorem dd_X12_shown_197 : decode mb_X12_shown 197 = .ok (.aload_n 0, 1) := by decide +kernel
theorem dd_X12_shown_198 : decode mb_X12_shown 198 = .ok (.getfield 135, 3) := by decide +kernel
theorem dd_X12_shown_201 : decode mb_X12_shown 201 = .ok (.iconst 1, 1) := by decide +kernel
theorem dd_X12_shown_202 : decode mb_X12_shown 202 = .ok (.isub, 1) := by decide +kernel
theorem dd_X12_shown_203 : decode mb_X12_shown 203 = .ok (.istore 4, 2) := by decide +kernel
theorem dd_X12_shown_205 : decode mb_X12_shown 205 = .ok (.iload 4, 2) := by decide +kernel
theorem dd_X12_shown_207 : decode mb_X12_shown 207 = .ok (.ifCond .lt 62, 3) := by decide +kernel
theorem dd_X12_shown_269 : decode mb_X12_shown 269 = .ok (.iload_n 2, 1) := by decide +kernel
theorem dd_X12_shown_270 : decode mb_X12_shown 270 = .ok (.ireturn, 1) := by decide +kernel
theorem dd_X12_sight_0 : decode mb_X12_sight 0 = .ok (.iload_n 1, 1) := by decide +kernel
theorem dd_X12_sight_1 : decode mb_X12_sight 1 = .ok (.ifCond .lt 20, 3) := by decide +kernel
theorem dd_X12_sight_4 : decode mb_X12_sight 4 = .ok (.iload_n 1, 1) := by decide +kernel
theorem dd_X12_sight_5 : decode mb_X12_sight 5 = .ok (.bipush 99, 2) := by decide +kernel
theorem dd_X12_sight_7 : decode mb_X12_sight 7 = .ok (.if_icmp .gt 14, 3) := by decide +kernel
theorem dd_X12_sight_10 : decode mb_X12_sight 10 = .ok (.iload_n 2, 1) := by decide +kernel
theorem dd_X12_sight_11 : decode mb_X12_sight 11 = .ok (.ifCond .lt 10, 3) := by decide +kernel
theorem dd_X12_sight_14 : decode mb_X12_sight 14 = .ok (.iload_n 2, 1) := by decide +kernel
theorem dd_X12_sight_15 : decode mb_X12_sight 15 = .ok (.sipush 255, 3) := by decide +kernel
theorem dd_X12_sight_18 : decode mb_X12_sight 18 = .ok (.if_icmp .le 10, 3) := by decide +kernel
theorem dd_X12_sight_21 : decode mb_X12_sight 21 = .ok (.aload_n 0, 1) := by decide +kernel
theorem dd_X12_sight_22 : decode mb_X12_sight 22 = .ok (.bipush (-2), 2) := by decide +kernel
theorem dd_X12_sight_24 : decode mb_X12_sight 24 = .ok (.invokevirtual 152, 3) := by decide +kernel
theorem dd_X12_sight_27 : decode mb_X12_sight 27 = .ok (.ireturn, 1) := by decide +kernel
theorem dd_X12_sight_28 : decode mb_X12_sight 28 = .ok (.iload_n 3, 1) := by decide +kernel
theorem dd_X12_sight_29 : decode mb_X12_sight 29 = .ok (.iconst (-1), 1) := by decide +kernel
theorem dd_X12_sight_30 : decode mb_X12_sight 30 = .ok (.if_icmp .eq 11, 3) := by decide +kernel
theorem dd_X12_sight_33 : decode mb_X12_sight 33 = .ok (.aload_n 0, 1) := by decide +kernel
theorem dd_X12_sight_34 : decode mb_X12_sight 34 = .ok (.iload_n 3, 1) := by decide +kernel
theorem dd_X12_sight_35 : decode mb_X12_sight 35 = .ok (.invokevirtual 276, 3) := by decide +kernel
theorem dd_X12_sight_38 : decode mb_X12_sight 38 = .ok (.ifCond .eq 18, 3) := by decide +kernel
theorem dd_X12_sight_41 : decode mb_X12_sight 41 = .ok (.iload 4, 2) := by decide +kernel
theorem dd_X12_sight_43 : decode mb_X12_sight 43 = .ok (.iconst (-1), 1) := by decide +kernel
theorem dd_X12_sight_44 : decode mb_X12_sight 44 = .ok (.if_icmp .eq 19, 3) := by decide +kernel
theorem dd_X12_sight_47 : decode mb_X12_sight 47 = .ok (.aload_n 0, 1) := by decide +kernel
theorem dd_X12_sight_48 : decode mb_X12_sight 48 = .ok (.iload 4, 2) := by decide +kernel
theorem dd_X12_sight_50 : decode mb_X12_sight 50 = .ok (.invokevirtual 276, 3) := by decide +kernel
theorem dd_X12_sight_53 : decode mb_X12_sight 53 = .ok (.ifCond .ne 10, 3) := by decide +kernel
theorem dd_X12_sight_56 : decode mb_X12_sight 56 = .ok (.aload_n 0, 1) := by decide +kernel
theorem dd_X12_sight_57 : decode mb_X12_sight 57 = .ok (.bipush (-2), 2) := by decide +kernel
theorem dd_X12_sight_59 : decode mb_X12_sight 59 = .ok (.invokevirtual 152, 3) := by decide +kernel
theorem dd_X12_sight_62 : decode mb_X12_sight 62 = .ok (.ireturn, 1) := by decide +kernel
theorem dd_X12_sight_63 : decode mb_X12_sight 63 = .ok (.aload_n 0, 1) := by decide +kernel
theorem dd_X12_sight_64 : decode mb_X12_sight 64 = .ok (.getfield 279, 3) := by decide +kernel
theorem dd_X12_sight_67 : decode mb_X12_sight 67 = .ok (.bipush 20, 2) := by decide +kernel
theorem dd_X12_sight_69 : decode mb_X12_sight 69 = .ok (.if_icmp .ne 10, 3) := by decide +kernel
theorem dd_X12_sight_79 : decode mb_X12_sight 79 = .ok (.aload_n 0, 1) := by decide +kernel
theorem dd_X12_sight_80 : decode mb_X12_sight 80 = .ok (.getfield 71, 3) := by decide +kernel
theorem dd_X12_sight_83 : decode mb_X12_sight 83 = .ok (.aload_n 0, 1) := by decide +kernel
theorem dd_X12_sight_84 : decode mb_X12_sight 84 = .ok (.getfield 279, 3) := by decide +kernel
theorem dd_X12_sight_87 : decode mb_X12_sight 87 = .ok (.iload_n 1, 1) := by decide +kernel
theorem dd_X12_sight_88 : decode mb_X12_sight 88 = .ok (.iastore, 1) := by decide +kernel
theorem dd_X12_sight_89 : decode mb_X12_sight 89 = .ok (.aload_n 0, 1) := by decide +kernel
theorem dd_X12_sight_90 : decode mb_X12_sight 90 = .ok (.getfield 74, 3) := by decide +kernel
theorem dd_X12_sight_93 : decode mb_X12_sight 93 = .ok (.aload_n 0, 1) := by decide +kernel
theorem dd_X12_sight_94 : decode mb_X12_sight 94 = .ok (.getfield 279, 3) := by decide +kernel
theorem dd_X12_sight_97 : decode mb_X12_sight 97 = .ok (.iload_n 2, 1) := by decide +kernel
theorem dd_X12_sight_98 : decode mb_X12_sight 98 = .ok (.iastore, 1) := by decide +kernel
theorem dd_X12_sight_99 : decode mb_X12_sight 99 = .ok (.aload_n 0, 1) := by decide +kernel
theorem dd_X12_sight_100 : decode mb_X12_sight 100 = .ok (.getfield 77, 3) := by decide +kernel
theorem dd_X12_sight_103 : decode mb_X12_sight 103 = .ok (.aload_n 0, 1) := by decide +kernel
theorem dd_X12_sight_104 : decode mb_X12_sight 104 = .ok (.getfield 279, 3) := by decide +kernel
theorem dd_X12_sight_107 : decode mb_X12_sight 107 = .ok (.iload_n 3, 1) := by decide +kernel
theorem dd_X12_sight_108 : decode mb_X12_sight 108 = .ok (.iastore, 1) := by decide +kernel
theorem dd_X12_sight_109 : decode mb_X12_sight 109 = .ok (.aload_n 0, 1) := by decide +kernel
theorem dd_X12_sight_110 : decode mb_X12_sight 110 = .ok (.getfield 80, 3) := by decide +kernel
theorem dd_X12_sight_113 : decode mb_X12_sight 113 = .ok (.aload_n 0, 1) := by decide +kernel
theorem dd_X12_sight_114 : decode mb_X12_sight 114 = .ok (.getfield 279, 3) := by decide +kernel
theorem dd_X12_sight_117 : decode mb_X12_sight 117 = .ok (.iload 4, 2) := by decide +kernel
theorem dd_X12_sight_119 : decode mb_X12_sight 119 = .ok (.iastore, 1) := by decide +kernel
theorem dd_X12_sight_120 : decode mb_X12_sight 120 = .ok (.aload_n 0, 1) := by decide +kernel
theorem dd_X12_sight_121 : decode mb_X12_sight 121 = .ok (.dup, 1) := by decide +kernel
theorem dd_X12_sight_122 : decode mb_X12_sight 122 = .ok (.getfield 279, 3) := by decide +kernel
theorem dd_X12_sight_125 : decode mb_X12_sight 125 = .ok (.dup_x1, 1) := by decide +kernel
theorem dd_X12_sight_126 : decode mb_X12_sight 126 = .ok (.iconst 1, 1) := by decide +kernel
theorem dd_X12_sight_127 : decode mb_X12_sight 127 = .ok (.iadd, 1) := by decide +kernel
theorem dd_X12_sight_128 : decode mb_X12_sight 128 = .ok (.putfield 279, 3) := by decide +kernel
theorem dd_X12_sight_131 : decode mb_X12_sight 131 = .ok (.ireturn, 1) := by decide +kernel
theorem dd_X12_sold_0 : decode mb_X12_sold 0 = .ok (.iconst 0, 1) := by decide +kernel
theorem dd_X12_sold_1 : decode mb_X12_sold 1 = .ok (.istore_n 1, 1) := by decide +kernel
theorem dd_X12_sold_2 : decode mb_X12_sold 2 = .ok (.iconst 0, 1) := by decide +kernel
theorem dd_X12_sold_3 : decode mb_X12_sold 3 = .ok (.istore_n 2, 1) := by decide +kernel
theorem dd_X12_sold_4 : decode mb_X12_sold 4 = .ok (.iload_n 2, 1) := by decide +kernel
theorem dd_X12_sold_5 : decode mb_X12_sold 5 = .ok (.aload_n 0, 1) := by decide +kernel
theorem dd_X12_sold_6 : decode mb_X12_sold 6 = .ok (.getfield 135, 3) := by decide +kernel
theorem dd_X12_sold_9 : decode mb_X12_sold 9 = .ok (.if_icmp .ge 21, 3) := by decide +kernel
theorem dd_X12_sold_30 : decode mb_X12_sold 30 = .ok (.iload_n 1, 1) := by decide +kernel
theorem dd_X12_sold_31 : decode mb_X12_sold 31 = .ok (.ireturn, 1) := by decide +kernel
theorem dd_X12_status_0 : decode mb_X12_status 0 = .ok (.iload_n 1, 1) := by decide +kernel
theorem dd_X12_status_1 : decode mb_X12_status 1 = .ok (.ifCond .ne 8, 3) := by decide +kernel
theorem dd_X12_status_4 : decode mb_X12_status 4 = .ok (.aload_n 0, 1) := by decide +kernel
theorem dd_X12_status_5 : decode mb_X12_status 5 = .ok (.getfield 135, 3) := by decide +kernel
theorem dd_X12_status_8 : decode mb_X12_status 8 = .ok (.ireturn, 1) := by decide +kernel
theorem dd_X12_status_9 : decode mb_X12_status 9 = .ok (.iload_n 1, 1) := by decide +kernel
theorem dd_X12_status_10 : decode mb_X12_status 10 = .ok (.iconst 1, 1) := by decide +kernel
theorem dd_X12_status_11 : decode mb_X12_status 11 = .ok (.if_icmp .ne 8, 3) := by decide +kernel
theorem dd_X12_status_14 : decode mb_X12_status 14 = .ok (.aload_n 0, 1) := by decide +kernel
theorem dd_X12_status_15 : decode mb_X12_status 15 = .ok (.getfield 139, 3) := by decide +kernel
theorem dd_X12_status_18 : decode mb_X12_status 18 = .ok (.ireturn, 1) := by decide +kernel
theorem dd_X12_status_19 : decode mb_X12_status 19 = .ok (.iload_n 1, 1) := by decide +kernel
theorem dd_X12_status_20 : decode mb_X12_status 20 = .ok (.iconst 2, 1) := by decide +kernel
theorem dd_X12_status_21 : decode mb_X12_status 21 = .ok (.if_icmp .ne 8, 3) := by decide +kernel
theorem dd_X12_status_24 : decode mb_X12_status 24 = .ok (.aload_n 0, 1) := by decide +kernel
theorem dd_X12_status_25 : decode mb_X12_status 25 = .ok (.getfield 142, 3) := by decide +kernel
theorem dd_X12_status_28 : decode mb_X12_status 28 = .ok (.ireturn, 1) := by decide +kernel
theorem dd_X12_status_29 : decode mb_X12_status 29 = .ok (.iload_n 1, 1) := by decide +kernel
theorem dd_X12_status_30 : decode mb_X12_status 30 = .ok (.iconst 3, 1) := by decide +kernel
theorem dd_X12_status_31 : decode mb_X12_status 31 = .ok (.if_icmp .ne 8, 3) := by decide +kernel
theorem dd_X12_status_34 : decode mb_X12_status 34 = .ok (.aload_n 0, 1) := by decide +kernel
theorem dd_X12_status_35 : decode mb_X12_status 35 = .ok (.getfield 145, 3) := by decide +kernel
theorem dd_X12_status_38 : decode mb_X12_status 38 = .ok (.ireturn, 1) := by decide +kernel
theorem dd_X12_status_39 : decode mb_X12_status 39 = .ok (.iload_n 1, 1) := by decide +kernel
theorem dd_X12_status_40 : decode mb_X12_status 40 = .ok (.iconst 4, 1) := by decide +kernel
theorem dd_X12_status_41 : decode mb_X12_status 41 = .ok (.if_icmp .ne 8, 3) := by decide +kernel
theorem dd_X12_status_44 : decode mb_X12_status 44 = .ok (.aload_n 0, 1) := by decide +kernel
theorem dd_X12_status_45 : decode mb_X12_status 45 = .ok (.getfield 273, 3) := by decide +kernel
theorem dd_X12_status_48 : decode mb_X12_status 48 = .ok (.ireturn, 1) := by decide +kernel
theorem dd_X12_status_49 : decode mb_X12_status 49 = .ok (.iload_n 1, 1) := by decide +kernel
theorem dd_X12_status_50 : decode mb_X12_status 50 = .ok (.iconst 5, 1) := by decide +kernel
theorem dd_X12_status_51 : decode mb_X12_status 51 = .ok (.if_icmp .ne 8, 3) := by decide +kernel
theorem dd_X12_status_54 : decode mb_X12_status 54 = .ok (.aload_n 0, 1) := by decide +kernel
theorem dd_X12_status_55 : decode mb_X12_status 55 = .ok (.getfield 279, 3) := by decide +kernel
theorem dd_X12_status_58 : decode mb_X12_status 58 = .ok (.ireturn, 1) := by decide +kernel
theorem dd_X12_status_59 : decode mb_X12_status 59 = .ok (.iload_n 1, 1) := by decide +kernel
theorem dd_X12_status_60 : decode mb_X12_status 60 = .ok (.bipush 6, 2) := by decide +kernel
theorem dd_X12_status_62 : decode mb_X12_status 62 = .ok (.if_icmp .ne 8, 3) := by decide +kernel
theorem dd_X12_status_65 : decode mb_X12_status 65 = .ok (.aload_n 0, 1) := by decide +kernel
theorem dd_X12_status_66 : decode mb_X12_status 66 = .ok (.getfield 288, 3) := by decide +kernel
theorem dd_X12_status_69 : decode mb_X12_status 69 = .ok (.ireturn, 1) := by decide +kernel
theorem dd_X12_status_70 : decode mb_X12_status 70 = .ok (.iload_n 1, 1) := by decide +kernel
theorem dd_X12_status_71 : decode mb_X12_status 71 = .ok (.bipush 7, 2) := by decide +kernel
theorem dd_X12_status_73 : decode mb_X12_status 73 = .ok (.if_icmp .ne 8, 3) := by decide +kernel
theorem dd_X12_status_76 : decode mb_X12_status 76 = .ok (.aload_n 0, 1) := by decide +kernel
theorem dd_X12_status_77 : decode mb_X12_status 77 = .ok (.getfield 199, 3) := by decide +kernel
theorem dd_X12_status_80 : decode mb_X12_status 80 = .ok (.ireturn, 1) := by decide +kernel
theorem dd_X12_status_81 : decode mb_X12_status 81 = .ok (.iload_n 1, 1) := by decide +kernel
theorem dd_X12_status_82 : decode mb_X12_status 82 = .ok (.bipush 8, 2) := by decide +kernel
theorem dd_X12_status_84 : decode mb_X12_status 84 = .ok (.if_icmp .ne 33, 3) := by decide +kernel
theorem dd_X12_status_87 : decode mb_X12_status 87 = .ok (.iconst 0, 1) := by decide +kernel
theorem dd_X12_status_88 : decode mb_X12_status 88 = .ok (.istore_n 2, 1) := by decide +kernel
theorem dd_X12_status_89 : decode mb_X12_status 89 = .ok (.iconst 0, 1) := by decide +kernel
theorem dd_X12_status_90 : decode mb_X12_status 90 = .ok (.istore_n 3, 1) := by decide +kernel
theorem dd_X12_status_91 : decode mb_X12_status 91 = .ok (.iload_n 3, 1) := by decide +kernel
theorem dd_X12_status_92 : decode mb_X12_status 92 = .ok (.bipush 8, 2) := by decide +kernel
theorem dd_X12_status_94 : decode mb_X12_status 94 = .ok (.if_icmp .ge 21, 3) := by decide +kernel
theorem dd_X12_status_97 : decode mb_X12_status 97 = .ok (.aload_n 0, 1) := by decide +kernel
theorem dd_X12_status_98 : decode mb_X12_status 98 = .ok (.getfield 7, 3) := by decide +kernel
theorem dd_X12_status_101 : decode mb_X12_status 101 = .ok (.iload_n 3, 1) := by decide +kernel
theorem dd_X12_status_102 : decode mb_X12_status 102 = .ok (.iaload, 1) := by decide +kernel
theorem dd_X12_status_103 : decode mb_X12_status 103 = .ok (.ifCond .lt 6, 3) := by decide +kernel
theorem dd_X12_status_109 : decode mb_X12_status 109 = .ok (.iinc 3 1, 3) := by decide +kernel
theorem dd_X12_status_112 : decode mb_X12_status 112 = .ok (.goto (-21), 3) := by decide +kernel
theorem dd_X12_status_115 : decode mb_X12_status 115 = .ok (.iload_n 2, 1) := by decide +kernel
theorem dd_X12_status_116 : decode mb_X12_status 116 = .ok (.ireturn, 1) := by decide +kernel
theorem dd_X12_status_117 : decode mb_X12_status 117 = .ok (.iload_n 1, 1) := by decide +kernel
theorem dd_X12_status_118 : decode mb_X12_status 118 = .ok (.bipush 12, 2) := by decide +kernel
theorem dd_X12_status_120 : decode mb_X12_status 120 = .ok (.if_icmp .lt 21, 3) := by decide +kernel
theorem dd_X12_status_123 : decode mb_X12_status 123 = .ok (.iload_n 1, 1) := by decide +kernel
theorem dd_X12_status_124 : decode mb_X12_status 124 = .ok (.bipush 16, 2) := by decide +kernel
theorem dd_X12_status_126 : decode mb_X12_status 126 = .ok (.if_icmp .gt 15, 3) := by decide +kernel
theorem dd_X12_status_129 : decode mb_X12_status 129 = .ok (.aload_n 0, 1) := by decide +kernel
theorem dd_X12_status_130 : decode mb_X12_status 130 = .ok (.getfield 95, 3) := by decide +kernel
theorem dd_X12_status_133 : decode mb_X12_status 133 = .ok (.iload_n 1, 1) := by decide +kernel
theorem dd_X12_status_134 : decode mb_X12_status 134 = .ok (.bipush 10, 2) := by decide +kernel
theorem dd_X12_status_136 : decode mb_X12_status 136 = .ok (.isub, 1) := by decide +kernel
theorem dd_X12_status_137 : decode mb_X12_status 137 = .ok (.iaload, 1) := by decide +kernel
theorem dd_X12_status_138 : decode mb_X12_status 138 = .ok (.goto 4, 3) := by decide +kernel
theorem dd_X12_status_141 : decode mb_X12_status 141 = .ok (.iconst (-1), 1) := by decide +kernel
theorem dd_X12_status_142 : decode mb_X12_status 142 = .ok (.ireturn, 1) := by decide +kernel
theorem dd_X12_table_0 : decode mb_X12_table 0 = .ok (.aload_n 0, 1) := by decide +kernel
theorem dd_X12_table_1 : decode mb_X12_table 1 = .ok (.iload_n 1, 1) := by decide +kernel
theorem dd_X12_table_2 : decode mb_X12_table 2 = .ok (.invokevirtual 190, 3) := by decide +kernel
theorem dd_X12_table_5 : decode mb_X12_table 5 = .ok (.ifCond .ne 10, 3) := by decide +kernel
theorem dd_X12_table_8 : decode mb_X12_table 8 = .ok (.aload_n 0, 1) := by decide +kernel
theorem dd_X12_table_9 : decode mb_X12_table 9 = .ok (.bipush (-2), 2) := by decide +kernel
theorem dd_X12_table_11 : decode mb_X12_table 11 = .ok (.invokevirtual 152, 3) := by decide +kernel
theorem dd_X12_table_14 : decode mb_X12_table 14 = .ok (.ireturn, 1) := by decide +kernel
theorem dd_X12_table_15 : decode mb_X12_table 15 = .ok (.aload_n 0, 1) := by decide +kernel
theorem dd_X12_table_16 : decode mb_X12_table 16 = .ok (.getfield 273, 3) := by decide +kernel
theorem dd_X12_table_19 : decode mb_X12_table 19 = .ok (.iconst 5, 1) := by decide +kernel
theorem dd_X12_table_20 : decode mb_X12_table 20 = .ok (.if_icmp .ne 10, 3) := by decide +kernel
theorem dd_X12_table_30 : decode mb_X12_table 30 = .ok (.aload_n 0, 1) := by decide +kernel
theorem dd_X12_table_31 : decode mb_X12_table 31 = .ok (.getfield 68, 3) := by decide +kernel
theorem dd_X12_table_34 : decode mb_X12_table 34 = .ok (.aload_n 0, 1) := by decide +kernel
theorem dd_X12_table_35 : decode mb_X12_table 35 = .ok (.getfield 273, 3) := by decide +kernel
theorem dd_X12_table_38 : decode mb_X12_table 38 = .ok (.iload_n 1, 1) := by decide +kernel
theorem dd_X12_table_39 : decode mb_X12_table 39 = .ok (.iastore, 1) := by decide +kernel
theorem dd_X12_table_40 : decode mb_X12_table 40 = .ok (.aload_n 0, 1) := by decide +kernel
theorem dd_X12_table_41 : decode mb_X12_table 41 = .ok (.dup, 1) := by decide +kernel
theorem dd_X12_table_42 : decode mb_X12_table 42 = .ok (.getfield 273, 3) := by decide +kernel
theorem dd_X12_table_45 : decode mb_X12_table 45 = .ok (.dup_x1, 1) := by decide +kernel
theorem dd_X12_table_46 : decode mb_X12_table 46 = .ok (.iconst 1, 1) := by decide +kernel
theorem dd_X12_table_47 : decode mb_X12_table 47 = .ok (.iadd, 1) := by decide +kernel
theorem dd_X12_table_48 : decode mb_X12_table 48 = .ok (.putfield 273, 3) := by decide +kernel
theorem dd_X12_table_51 : decode mb_X12_table 51 = .ok (.ireturn, 1) := by decide +kernel
theorem dd_X12_takes_0 : decode mb_X12_takes 0 = .ok (.aload_n 0, 1) := by decide +kernel
theorem dd_X12_takes_1 : decode mb_X12_takes 1 = .ok (.iload_n 1, 1) := by decide +kernel
theorem dd_X12_takes_2 : decode mb_X12_takes 2 = .ok (.invokevirtual 251, 3) := by decide +kernel
theorem dd_X12_takes_5 : decode mb_X12_takes 5 = .ok (.ifCond .eq 11, 3) := by decide +kernel
theorem dd_X12_takes_16 : decode mb_X12_takes 16 = .ok (.aload_n 0, 1) := by decide +kernel
theorem dd_X12_takes_17 : decode mb_X12_takes 17 = .ok (.bipush (-2), 2) := by decide +kernel
theorem dd_X12_takes_19 : decode mb_X12_takes 19 = .ok (.invokevirtual 152, 3) := by decide +kernel
theorem dd_X12_takes_22 : decode mb_X12_takes 22 = .ok (.ireturn, 1) := by decide +kernel
theorem dd_X12_takings_0 : decode mb_X12_takings 0 = .ok (.iload_n 1, 1) := by decide +kernel
theorem dd_X12_takings_1 : decode mb_X12_takings 1 = .ok (.ifCond .lt 19, 3) := by decide +kernel
theorem dd_X12_takings_4 : decode mb_X12_takings 4 = .ok (.iload_n 1, 1) := by decide +kernel
theorem dd_X12_takings_5 : decode mb_X12_takings 5 = .ok (.bipush 12, 2) := by decide +kernel
theorem dd_X12_takings_7 : decode mb_X12_takings 7 = .ok (.if_icmp .gt 13, 3) := by decide +kernel
theorem dd_X12_takings_10 : decode mb_X12_takings 10 = .ok (.iload_n 2, 1) := by decide +kernel
theorem dd_X12_takings_11 : decode mb_X12_takings 11 = .ok (.ifCond .lt 9, 3) := by decide +kernel
theorem dd_X12_takings_14 : decode mb_X12_takings 14 = .ok (.iload_n 2, 1) := by decide +kernel
theorem dd_X12_takings_15 : decode mb_X12_takings 15 = .ok (.bipush 12, 2) := by decide +kernel
theorem dd_X12_takings_17 : decode mb_X12_takings 17 = .ok (.if_icmp .le 10, 3) := by decide +kernel
theorem dd_X12_takings_20 : decode mb_X12_takings 20 = .ok (.aload_n 0, 1) := by decide +kernel
theorem dd_X12_takings_21 : decode mb_X12_takings 21 = .ok (.bipush (-2), 2) := by decide +kernel
theorem dd_X12_takings_23 : decode mb_X12_takings 23 = .ok (.invokevirtual 152, 3) := by decide +kernel
theorem dd_X12_takings_26 : decode mb_X12_takings 26 = .ok (.ireturn, 1) := by decide +kernel
theorem dd_X12_takings_27 : decode mb_X12_takings 27 = .ok (.aload_n 0, 1) := by decide +kernel
theorem dd_X12_takings_28 : decode mb_X12_takings 28 = .ok (.iload_n 1, 1) := by decide +kernel
theorem dd_X12_takings_29 : decode mb_X12_takings 29 = .ok (.iload_n 2, 1) := by decide +kernel
theorem dd_X12_takings_30 : decode mb_X12_takings 30 = .ok (.invokevirtual 264, 3) := by decide +kernel
theorem dd_X12_takings_33 : decode mb_X12_takings 33 = .ok (.ireturn, 1) := by decide +kernel
theorem dd_X12_thing_0 : decode mb_X12_thing 0 = .ok (.aload_n 0, 1) := by decide +kernel
theorem dd_X12_thing_1 : decode mb_X12_thing 1 = .ok (.iload_n 1, 1) := by decide +kernel
theorem dd_X12_thing_2 : decode mb_X12_thing 2 = .ok (.invokevirtual 168, 3) := by decide +kernel
theorem dd_X12_thing_5 : decode mb_X12_thing 5 = .ok (.ifCond .eq 25, 3) := by decide +kernel
theorem dd_X12_thing_8 : decode mb_X12_thing 8 = .ok (.iload_n 2, 1) := by decide +kernel
theorem dd_X12_thing_9 : decode mb_X12_thing 9 = .ok (.ifCond .lt 21, 3) := by decide +kernel
theorem dd_X12_thing_12 : decode mb_X12_thing 12 = .ok (.iload_n 2, 1) := by decide +kernel
theorem dd_X12_thing_13 : decode mb_X12_thing 13 = .ok (.sipush 999, 3) := by decide +kernel
theorem dd_X12_thing_16 : decode mb_X12_thing 16 = .ok (.if_icmp .gt 14, 3) := by decide +kernel
theorem dd_X12_thing_19 : decode mb_X12_thing 19 = .ok (.iload_n 3, 1) := by decide +kernel
theorem dd_X12_thing_20 : decode mb_X12_thing 20 = .ok (.ifCond .lt 10, 3) := by decide +kernel
theorem dd_X12_thing_23 : decode mb_X12_thing 23 = .ok (.iload_n 3, 1) := by decide +kernel
theorem dd_X12_thing_24 : decode mb_X12_thing 24 = .ok (.sipush 255, 3) := by decide +kernel
theorem dd_X12_thing_27 : decode mb_X12_thing 27 = .ok (.if_icmp .le 10, 3) := by decide +kernel
theorem dd_X12_thing_30 : decode mb_X12_thing 30 = .ok (.aload_n 0, 1) := by decide +kernel
theorem dd_X12_thing_31 : decode mb_X12_thing 31 = .ok (.bipush (-2), 2) := by decide +kernel
theorem dd_X12_thing_33 : decode mb_X12_thing 33 = .ok (.invokevirtual 152, 3) := by decide +kernel
theorem dd_X12_thing_36 : decode mb_X12_thing 36 = .ok (.ireturn, 1) := by decide +kernel
theorem dd_X12_thing_37 : decode mb_X12_thing 37 = .ok (.aload_n 0, 1) := by decide +kernel
theorem dd_X12_thing_38 : decode mb_X12_thing 38 = .ok (.getfield 135, 3) := by decide +kernel
theorem dd_X12_thing_41 : decode mb_X12_thing 41 = .ok (.bipush 30, 2) := by decide +kernel
theorem dd_X12_thing_43 : decode mb_X12_thing 43 = .ok (.if_icmp .ne 10, 3) := by decide +kernel
theorem dd_X12_thing_53 : decode mb_X12_thing 53 = .ok (.aload_n 0, 1) := by decide +kernel
theorem dd_X12_thing_54 : decode mb_X12_thing 54 = .ok (.dup, 1) := by decide +kernel
theorem dd_X12_thing_55 : decode mb_X12_thing 55 = .ok (.getfield 135, 3) := by decide +kernel
theorem dd_X12_thing_58 : decode mb_X12_thing 58 = .ok (.dup_x1, 1) := by decide +kernel
theorem dd_X12_thing_59 : decode mb_X12_thing 59 = .ok (.iconst 1, 1) := by decide +kernel
theorem dd_X12_thing_60 : decode mb_X12_thing 60 = .ok (.iadd, 1) := by decide +kernel
theorem dd_X12_thing_61 : decode mb_X12_thing 61 = .ok (.putfield 135, 3) := by decide +kernel
theorem dd_X12_thing_64 : decode mb_X12_thing 64 = .ok (.istore 4, 2) := by decide +kernel
theorem dd_X12_thing_66 : decode mb_X12_thing 66 = .ok (.aload_n 0, 1) := by decide +kernel
theorem dd_X12_thing_67 : decode mb_X12_thing 67 = .ok (.getfield 20, 3) := by decide +kernel
theorem dd_X12_thing_70 : decode mb_X12_thing 70 = .ok (.iload 4, 2) := by decide +kernel
theorem dd_X12_thing_72 : decode mb_X12_thing 72 = .ok (.iload_n 1, 1) := by decide +kernel
theorem dd_X12_thing_73 : decode mb_X12_thing 73 = .ok (.iastore, 1) := by decide +kernel
theorem dd_X12_thing_74 : decode mb_X12_thing 74 = .ok (.aload_n 0, 1) := by decide +kernel
theorem dd_X12_thing_75 : decode mb_X12_thing 75 = .ok (.getfield 23, 3) := by decide +kernel
theorem dd_X12_thing_78 : decode mb_X12_thing 78 = .ok (.iload 4, 2) := by decide +kernel
theorem dd_X12_thing_80 : decode mb_X12_thing 80 = .ok (.iload_n 2, 1) := by decide +kernel
theorem dd_X12_thing_81 : decode mb_X12_thing 81 = .ok (.iastore, 1) := by decide +kernel
theorem dd_X12_thing_82 : decode mb_X12_thing 82 = .ok (.aload_n 0, 1) := by decide +kernel
theorem dd_X12_thing_83 : decode mb_X12_thing 83 = .ok (.getfield 26, 3) := by decide +kernel
theorem dd_X12_thing_86 : decode mb_X12_thing 86 = .ok (.iload 4, 2) := by decide +kernel
theorem dd_X12_thing_88 : decode mb_X12_thing 88 = .ok (.iload_n 3, 1) := by decide +kernel
theorem dd_X12_thing_89 : decode mb_X12_thing 89 = .ok (.iastore, 1) := by decide +kernel
theorem dd_X12_thing_90 : decode mb_X12_thing 90 = .ok (.aload_n 0, 1) := by decide +kernel
theorem dd_X12_thing_91 : decode mb_X12_thing 91 = .ok (.getfield 29, 3) := by decide +kernel
theorem dd_X12_thing_94 : decode mb_X12_thing 94 = .ok (.iload 4, 2) := by decide +kernel
theorem dd_X12_thing_96 : decode mb_X12_thing 96 = .ok (.iconst (-1), 1) := by decide +kernel
theorem dd_X12_thing_97 : decode mb_X12_thing 97 = .ok (.iastore, 1) := by decide +kernel
theorem dd_X12_thing_98 : decode mb_X12_thing 98 = .ok (.aload_n 0, 1) := by decide +kernel
theorem dd_X12_thing_99 : decode mb_X12_thing 99 = .ok (.getfield 32, 3) := by decide +kernel
theorem dd_X12_thing_102 : decode mb_X12_thing 102 = .ok (.iload 4, 2) := by decide +kernel
theorem dd_X12_thing_104 : decode mb_X12_thing 104 = .ok (.iconst (-1), 1) := by decide +kernel
theorem dd_X12_thing_105 : decode mb_X12_thing 105 = .ok (.iastore, 1) := by decide +kernel
theorem dd_X12_thing_106 : decode mb_X12_thing 106 = .ok (.aload_n 0, 1) := by decide +kernel
theorem dd_X12_thing_107 : decode mb_X12_thing 107 = .ok (.getfield 35, 3) := by decide +kernel
theorem dd_X12_thing_110 : decode mb_X12_thing 110 = .ok (.iload 4, 2) := by decide +kernel
theorem dd_X12_thing_112 : decode mb_X12_thing 112 = .ok (.iconst (-1), 1) := by decide +kernel
theorem dd_X12_thing_113 : decode mb_X12_thing 113 = .ok (.iastore, 1) := by decide +kernel
theorem dd_X12_thing_114 : decode mb_X12_thing 114 = .ok (.iload 4, 2) := by decide +kernel
theorem dd_X12_thing_116 : decode mb_X12_thing 116 = .ok (.ireturn, 1) := by decide +kernel
theorem dd_X12_thingOf_0 : decode mb_X12_thingOf 0 = .ok (.aload_n 0, 1) := by decide +kernel
theorem dd_X12_thingOf_1 : decode mb_X12_thingOf 1 = .ok (.iload_n 1, 1) := by decide +kernel
theorem dd_X12_thingOf_2 : decode mb_X12_thingOf 2 = .ok (.invokevirtual 165, 3) := by decide +kernel
theorem dd_X12_thingOf_5 : decode mb_X12_thingOf 5 = .ok (.ifCond .eq 13, 3) := by decide +kernel
theorem dd_X12_thingOf_18 : decode mb_X12_thingOf 18 = .ok (.aload_n 0, 1) := by decide +kernel
theorem dd_X12_thingOf_19 : decode mb_X12_thingOf 19 = .ok (.bipush (-2), 2) := by decide +kernel
theorem dd_X12_thingOf_21 : decode mb_X12_thingOf 21 = .ok (.invokevirtual 152, 3) := by decide +kernel
theorem dd_X12_thingOf_24 : decode mb_X12_thingOf 24 = .ok (.ireturn, 1) := by decide +kernel
theorem dd_X12_things_0 : decode mb_X12_things 0 = .ok (.aload_n 0, 1) := by decide +kernel
theorem dd_X12_things_1 : decode mb_X12_things 1 = .ok (.iload_n 1, 1) := by decide +kernel
theorem dd_X12_things_2 : decode mb_X12_things 2 = .ok (.invokevirtual 148, 3) := by decide +kernel
theorem dd_X12_things_5 : decode mb_X12_things 5 = .ok (.ifCond .eq 11, 3) := by decide +kernel
theorem dd_X12_things_8 : decode mb_X12_things 8 = .ok (.aload_n 0, 1) := by decide +kernel
theorem dd_X12_things_9 : decode mb_X12_things 9 = .ok (.iload_n 2, 1) := by decide +kernel
theorem dd_X12_things_10 : decode mb_X12_things 10 = .ok (.invokevirtual 168, 3) := by decide +kernel
theorem dd_X12_things_13 : decode mb_X12_things 13 = .ok (.ifCond .ne 10, 3) := by decide +kernel
theorem dd_X12_things_16 : decode mb_X12_things 16 = .ok (.aload_n 0, 1) := by decide +kernel
theorem dd_X12_things_17 : decode mb_X12_things 17 = .ok (.bipush (-2), 2) := by decide +kernel
theorem dd_X12_things_19 : decode mb_X12_things 19 = .ok (.invokevirtual 152, 3) := by decide +kernel
theorem dd_X12_things_22 : decode mb_X12_things 22 = .ok (.ireturn, 1) := by decide +kernel
theorem dd_X12_things_23 : decode mb_X12_things 23 = .ok (.aload_n 0, 1) := by decide +kernel
theorem dd_X12_things_24 : decode mb_X12_things 24 = .ok (.iload_n 1, 1) := by decide +kernel
theorem dd_X12_things_25 : decode mb_X12_things 25 = .ok (.invokevirtual 159, 3) := by decide +kernel
theorem dd_X12_things_28 : decode mb_X12_things 28 = .ok (.istore 4, 2) := by decide +kernel
theorem dd_X12_things_30 : decode mb_X12_things 30 = .ok (.iload 4, 2) := by decide +kernel
theorem dd_X12_things_32 : decode mb_X12_things 32 = .ok (.ifCond .ge 10, 3) := by decide +kernel
theorem dd_X12_things_35 : decode mb_X12_things 35 = .ok (.aload_n 0, 1) := by decide +kernel
theorem dd_X12_things_36 : decode mb_X12_things 36 = .ok (.iload 4, 2) := by decide +kernel
theorem dd_X12_things_38 : decode mb_X12_things 38 = .ok (.invokevirtual 152, 3) := by decide +kernel
theorem dd_X12_things_41 : decode mb_X12_things 41 = .ok (.ireturn, 1) := by decide +kernel
theorem dd_X12_thinks_0 : decode mb_X12_thinks 0 = .ok (.aload_n 0, 1) := by decide +kernel
theorem dd_X12_thinks_1 : decode mb_X12_thinks 1 = .ok (.iload_n 1, 1) := by decide +kernel
theorem dd_X12_thinks_2 : decode mb_X12_thinks 2 = .ok (.invokevirtual 193, 3) := by decide +kernel
theorem dd_X12_thinks_5 : decode mb_X12_thinks 5 = .ok (.ifCond .eq 11, 3) := by decide +kernel
theorem dd_X12_thinks_16 : decode mb_X12_thinks 16 = .ok (.aload_n 0, 1) := by decide +kernel
theorem dd_X12_thinks_17 : decode mb_X12_thinks 17 = .ok (.bipush (-2), 2) := by decide +kernel
theorem dd_X12_thinks_19 : decode mb_X12_thinks 19 = .ok (.invokevirtual 152, 3) := by decide +kernel
theorem dd_X12_thinks_22 : decode mb_X12_thinks 22 = .ok (.ireturn, 1) := by decide +kernel
theorem dd_X12_turn_0 : decode mb_X12_turn 0 = .ok (.iload_n 1, 1) := by decide +kernel
theorem dd_X12_turn_1 : decode mb_X12_turn 1 = .ok (.ifCond .lt 18, 3) := by decide +kernel
theorem dd_X12_turn_4 : decode mb_X12_turn 4 = .ok (.iload_n 1, 1) := by decide +kernel
theorem dd_X12_turn_5 : decode mb_X12_turn 5 = .ok (.iconst 1, 1) := by decide +kernel
theorem dd_X12_turn_6 : decode mb_X12_turn 6 = .ok (.if_icmp .gt 13, 3) := by decide +kernel
theorem dd_X12_turn_9 : decode mb_X12_turn 9 = .ok (.iload_n 2, 1) := by decide +kernel
theorem dd_X12_turn_10 : decode mb_X12_turn 10 = .ok (.ifCond .lt 9, 3) := by decide +kernel
theorem dd_X12_turn_13 : decode mb_X12_turn 13 = .ok (.iload_n 2, 1) := by decide +kernel
theorem dd_X12_turn_14 : decode mb_X12_turn 14 = .ok (.bipush 12, 2) := by decide +kernel
theorem dd_X12_turn_16 : decode mb_X12_turn 16 = .ok (.if_icmp .le 10, 3) := by decide +kernel
theorem dd_X12_turn_19 : decode mb_X12_turn 19 = .ok (.aload_n 0, 1) := by decide +kernel
theorem dd_X12_turn_20 : decode mb_X12_turn 20 = .ok (.bipush (-2), 2) := by decide +kernel
theorem dd_X12_turn_22 : decode mb_X12_turn 22 = .ok (.invokevirtual 152, 3) := by decide +kernel
theorem dd_X12_turn_25 : decode mb_X12_turn 25 = .ok (.ireturn, 1) := by decide +kernel
theorem dd_X12_turn_26 : decode mb_X12_turn 26 = .ok (.aload_n 0, 1) := by decide +kernel
theorem dd_X12_turn_27 : decode mb_X12_turn 27 = .ok (.getfield 92, 3) := by decide +kernel
theorem dd_X12_turn_30 : decode mb_X12_turn 30 = .ok (.iload_n 1, 1) := by decide +kernel
theorem dd_X12_turn_31 : decode mb_X12_turn 31 = .ok (.iaload, 1) := by decide +kernel
theorem dd_X12_turn_32 : decode mb_X12_turn 32 = .ok (.istore_n 3, 1) := by decide +kernel
theorem dd_X12_turn_33 : decode mb_X12_turn 33 = .ok (.aload_n 0, 1) := by decide +kernel
theorem dd_X12_turn_34 : decode mb_X12_turn 34 = .ok (.getfield 92, 3) := by decide +kernel
theorem dd_X12_turn_37 : decode mb_X12_turn 37 = .ok (.iload_n 1, 1) := by decide +kernel
theorem dd_X12_turn_38 : decode mb_X12_turn 38 = .ok (.iload_n 2, 1) := by decide +kernel
theorem dd_X12_turn_39 : decode mb_X12_turn 39 = .ok (.iastore, 1) := by decide +kernel
theorem dd_X12_turn_40 : decode mb_X12_turn 40 = .ok (.iload_n 3, 1) := by decide +kernel
theorem dd_X12_turn_41 : decode mb_X12_turn 41 = .ok (.ireturn, 1) := by decide +kernel
theorem dd_X12_vases_0 : decode mb_X12_vases 0 = .ok (.iconst 0, 1) := by decide +kernel
theorem dd_X12_vases_1 : decode mb_X12_vases 1 = .ok (.istore_n 1, 1) := by decide +kernel
theorem dd_X12_vases_2 : decode mb_X12_vases 2 = .ok (.iload_n 1, 1) := by decide +kernel
theorem dd_X12_vases_3 : decode mb_X12_vases 3 = .ok (.aload_n 0, 1) := by decide +kernel
theorem dd_X12_vases_4 : decode mb_X12_vases 4 = .ok (.getfield 279, 3) := by decide +kernel
theorem dd_X12_vases_7 : decode mb_X12_vases 7 = .ok (.if_icmp .ge 23, 3) := by decide +kernel
theorem dd_X12_vases_30 : decode mb_X12_vases 30 = .ok (.aload_n 0, 1) := by decide +kernel
theorem dd_X12_vases_31 : decode mb_X12_vases 31 = .ok (.getfield 279, 3) := by decide +kernel
theorem dd_X12_vases_34 : decode mb_X12_vases 34 = .ok (.istore_n 1, 1) := by decide +kernel
theorem dd_X12_vases_35 : decode mb_X12_vases 35 = .ok (.iconst 0, 1) := by decide +kernel
theorem dd_X12_vases_36 : decode mb_X12_vases 36 = .ok (.istore_n 2, 1) := by decide +kernel
theorem dd_X12_vases_37 : decode mb_X12_vases 37 = .ok (.iload_n 2, 1) := by decide +kernel
theorem dd_X12_vases_38 : decode mb_X12_vases 38 = .ok (.aload_n 0, 1) := by decide +kernel
theorem dd_X12_vases_39 : decode mb_X12_vases 39 = .ok (.getfield 279, 3) := by decide +kernel
theorem dd_X12_vases_42 : decode mb_X12_vases 42 = .ok (.if_icmp .ge 20, 3) := by decide +kernel
theorem dd_X12_vases_62 : decode mb_X12_vases 62 = .ok (.iload_n 1, 1) := by decide +kernel
theorem dd_X12_vases_63 : decode mb_X12_vases 63 = .ok (.ireturn, 1) := by decide +kernel
theorem dd_X12_who_0 : decode mb_X12_who 0 = .ok (.iload_n 1, 1) := by decide +kernel
theorem dd_X12_who_1 : decode mb_X12_who 1 = .ok (.iconst (-1), 1) := by decide +kernel
theorem dd_X12_who_2 : decode mb_X12_who 2 = .ok (.if_icmp .lt 11, 3) := by decide +kernel
theorem dd_X12_who_5 : decode mb_X12_who 5 = .ok (.iload_n 1, 1) := by decide +kernel
theorem dd_X12_who_6 : decode mb_X12_who 6 = .ok (.aload_n 0, 1) := by decide +kernel
theorem dd_X12_who_7 : decode mb_X12_who 7 = .ok (.getfield 273, 3) := by decide +kernel
theorem dd_X12_who_10 : decode mb_X12_who 10 = .ok (.if_icmp .lt 10, 3) := by decide +kernel
theorem dd_X12_who_13 : decode mb_X12_who 13 = .ok (.aload_n 0, 1) := by decide +kernel
theorem dd_X12_who_14 : decode mb_X12_who 14 = .ok (.bipush (-2), 2) := by decide +kernel
theorem dd_X12_who_16 : decode mb_X12_who 16 = .ok (.invokevirtual 152, 3) := by decide +kernel
theorem dd_X12_who_19 : decode mb_X12_who 19 = .ok (.ireturn, 1) := by decide +kernel
theorem dd_X12_who_20 : decode mb_X12_who 20 = .ok (.aload_n 0, 1) := by decide +kernel
theorem dd_X12_who_21 : decode mb_X12_who 21 = .ok (.getfield 273, 3) := by decide +kernel
theorem dd_X12_who_24 : decode mb_X12_who 24 = .ok (.aload_n 0, 1) := by decide +kernel
theorem dd_X12_who_25 : decode mb_X12_who 25 = .ok (.getfield 139, 3) := by decide +kernel
theorem dd_X12_who_28 : decode mb_X12_who 28 = .ok (.if_icmp .le 10, 3) := by decide +kernel
theorem dd_X12_who_38 : decode mb_X12_who 38 = .ok (.iconst 0, 1) := by decide +kernel
theorem dd_X12_who_39 : decode mb_X12_who 39 = .ok (.istore_n 2, 1) := by decide +kernel
theorem dd_X12_who_40 : decode mb_X12_who 40 = .ok (.iload_n 2, 1) := by decide +kernel
theorem dd_X12_who_41 : decode mb_X12_who 41 = .ok (.aload_n 0, 1) := by decide +kernel
theorem dd_X12_who_42 : decode mb_X12_who 42 = .ok (.getfield 273, 3) := by decide +kernel
theorem dd_X12_who_45 : decode mb_X12_who 45 = .ok (.if_icmp .ge 46, 3) := by decide +kernel
theorem dd_X12_who_91 : decode mb_X12_who 91 = .ok (.iconst 1, 1) := by decide +kernel
theorem dd_X12_who_92 : decode mb_X12_who 92 = .ok (.istore_n 2, 1) := by decide +kernel
theorem dd_X12_who_93 : decode mb_X12_who 93 = .ok (.iconst 0, 1) := by decide +kernel
theorem dd_X12_who_94 : decode mb_X12_who 94 = .ok (.istore_n 3, 1) := by decide +kernel
theorem dd_X12_who_95 : decode mb_X12_who 95 = .ok (.iload_n 3, 1) := by decide +kernel
theorem dd_X12_who_96 : decode mb_X12_who 96 = .ok (.aload_n 0, 1) := by decide +kernel
theorem dd_X12_who_97 : decode mb_X12_who 97 = .ok (.getfield 273, 3) := by decide +kernel
theorem dd_X12_who_100 : decode mb_X12_who 100 = .ok (.if_icmp .ge 16, 3) := by decide +kernel
theorem dd_X12_who_116 : decode mb_X12_who 116 = .ok (.iconst (-1), 1) := by decide +kernel
theorem dd_X12_who_117 : decode mb_X12_who 117 = .ok (.istore_n 3, 1) := by decide +kernel
theorem dd_X12_who_118 : decode mb_X12_who 118 = .ok (.iconst (-1), 1) := by decide +kernel
theorem dd_X12_who_119 : decode mb_X12_who 119 = .ok (.istore 4, 2) := by decide +kernel
theorem dd_X12_who_121 : decode mb_X12_who 121 = .ok (.iconst 0, 1) := by decide +kernel
theorem dd_X12_who_122 : decode mb_X12_who 122 = .ok (.istore 5, 2) := by decide +kernel
theorem dd_X12_who_124 : decode mb_X12_who 124 = .ok (.iload 5, 2) := by decide +kernel
theorem dd_X12_who_126 : decode mb_X12_who 126 = .ok (.iload_n 2, 1) := by decide +kernel
theorem dd_X12_who_127 : decode mb_X12_who 127 = .ok (.if_icmp .ge 134, 3) := by decide +kernel
theorem dd_X12_who_130 : decode mb_X12_who 130 = .ok (.iload 5, 2) := by decide +kernel
theorem dd_X12_who_132 : decode mb_X12_who 132 = .ok (.istore 6, 2) := by decide +kernel
theorem dd_X12_who_134 : decode mb_X12_who 134 = .ok (.iconst 0, 1) := by decide +kernel
theorem dd_X12_who_135 : decode mb_X12_who 135 = .ok (.istore 7, 2) := by decide +kernel
theorem dd_X12_who_137 : decode mb_X12_who 137 = .ok (.iconst 0, 1) := by decide +kernel
theorem dd_X12_who_138 : decode mb_X12_who 138 = .ok (.istore 8, 2) := by decide +kernel
theorem dd_X12_who_140 : decode mb_X12_who 140 = .ok (.iconst (-1), 1) := by decide +kernel
theorem dd_X12_who_141 : decode mb_X12_who 141 = .ok (.istore 9, 2) := by decide +kernel
theorem dd_X12_who_143 : decode mb_X12_who 143 = .ok (.iconst 1, 1) := by decide +kernel
theorem dd_X12_who_144 : decode mb_X12_who 144 = .ok (.istore 10, 2) := by decide +kernel
theorem dd_X12_who_146 : decode mb_X12_who 146 = .ok (.aload_n 0, 1) := by decide +kernel
theorem dd_X12_who_147 : decode mb_X12_who 147 = .ok (.getfield 273, 3) := by decide +kernel
theorem dd_X12_who_150 : decode mb_X12_who 150 = .ok (.iconst 1, 1) := by decide +kernel
theorem dd_X12_who_151 : decode mb_X12_who 151 = .ok (.isub, 1) := by decide +kernel
theorem dd_X12_who_152 : decode mb_X12_who 152 = .ok (.istore 11, 2) := by decide +kernel
theorem dd_X12_who_154 : decode mb_X12_who 154 = .ok (.iload 11, 2) := by decide +kernel
theorem dd_X12_who_156 : decode mb_X12_who 156 = .ok (.ifCond .lt 77, 3) := by decide +kernel
theorem dd_X12_who_233 : decode mb_X12_who 233 = .ok (.iload 10, 2) := by decide +kernel
theorem dd_X12_who_235 : decode mb_X12_who 235 = .ok (.ifCond .eq 20, 3) := by decide +kernel
theorem dd_X12_who_238 : decode mb_X12_who 238 = .ok (.iload_n 3, 1) := by decide +kernel
theorem dd_X12_who_239 : decode mb_X12_who 239 = .ok (.ifCond .lt 9, 3) := by decide +kernel
theorem dd_X12_who_248 : decode mb_X12_who 248 = .ok (.iload 8, 2) := by decide +kernel
theorem dd_X12_who_250 : decode mb_X12_who 250 = .ok (.istore_n 3, 1) := by decide +kernel
theorem dd_X12_who_251 : decode mb_X12_who 251 = .ok (.iload 9, 2) := by decide +kernel
theorem dd_X12_who_253 : decode mb_X12_who 253 = .ok (.istore 4, 2) := by decide +kernel
theorem dd_X12_who_255 : decode mb_X12_who 255 = .ok (.iinc 5 1, 3) := by decide +kernel
theorem dd_X12_who_258 : decode mb_X12_who 258 = .ok (.goto (-134), 3) := by decide +kernel
theorem dd_X12_who_261 : decode mb_X12_who 261 = .ok (.iload_n 1, 1) := by decide +kernel
theorem dd_X12_who_262 : decode mb_X12_who 262 = .ok (.ifCond .ge 7, 3) := by decide +kernel
theorem dd_X12_who_265 : decode mb_X12_who 265 = .ok (.iload_n 3, 1) := by decide +kernel
theorem dd_X12_who_266 : decode mb_X12_who 266 = .ok (.goto 5, 3) := by decide +kernel
theorem dd_X12_who_271 : decode mb_X12_who 271 = .ok (.ireturn, 1) := by decide +kernel
theorem dd_X12_wholeDay_0 : decode mb_X12_wholeDay 0 = .ok (.aload_n 0, 1) := by decide +kernel
theorem dd_X12_wholeDay_1 : decode mb_X12_wholeDay 1 = .ok (.invokevirtual 258, 3) := by decide +kernel
theorem dd_X12_wholeDay_4 : decode mb_X12_wholeDay 4 = .ok (.iconst 0, 1) := by decide +kernel
theorem dd_X12_wholeDay_5 : decode mb_X12_wholeDay 5 = .ok (.istore_n 3, 1) := by decide +kernel
theorem dd_X12_wholeDay_6 : decode mb_X12_wholeDay 6 = .ok (.iconst 0, 1) := by decide +kernel
theorem dd_X12_wholeDay_7 : decode mb_X12_wholeDay 7 = .ok (.istore 4, 2) := by decide +kernel
theorem dd_X12_wholeDay_9 : decode mb_X12_wholeDay 9 = .ok (.iload 4, 2) := by decide +kernel
theorem dd_X12_wholeDay_11 : decode mb_X12_wholeDay 11 = .ok (.bipush 12, 2) := by decide +kernel
theorem dd_X12_wholeDay_13 : decode mb_X12_wholeDay 13 = .ok (.if_icmp .ge 84, 3) := by decide +kernel
theorem dd_X12_wholeDay_16 : decode mb_X12_wholeDay 16 = .ok (.iconst 0, 1) := by decide +kernel
theorem dd_X12_wholeDay_17 : decode mb_X12_wholeDay 17 = .ok (.istore 5, 2) := by decide +kernel
theorem dd_X12_wholeDay_19 : decode mb_X12_wholeDay 19 = .ok (.iload 5, 2) := by decide +kernel
theorem dd_X12_wholeDay_21 : decode mb_X12_wholeDay 21 = .ok (.aload_n 0, 1) := by decide +kernel
theorem dd_X12_wholeDay_22 : decode mb_X12_wholeDay 22 = .ok (.getfield 145, 3) := by decide +kernel
theorem dd_X12_wholeDay_25 : decode mb_X12_wholeDay 25 = .ok (.if_icmp .ge 66, 3) := by decide +kernel
theorem dd_X12_wholeDay_91 : decode mb_X12_wholeDay 91 = .ok (.iinc 4 1, 3) := by decide +kernel
theorem dd_X12_wholeDay_94 : decode mb_X12_wholeDay 94 = .ok (.goto (-85), 3) := by decide +kernel
theorem dd_X12_wholeDay_97 : decode mb_X12_wholeDay 97 = .ok (.iload_n 3, 1) := by decide +kernel
theorem dd_X12_wholeDay_98 : decode mb_X12_wholeDay 98 = .ok (.ireturn, 1) := by decide +kernel
theorem dd_X12_wipe_0 : decode mb_X12_wipe 0 = .ok (.aload_n 0, 1) := by decide +kernel
theorem dd_X12_wipe_1 : decode mb_X12_wipe 1 = .ok (.getfield 199, 3) := by decide +kernel
theorem dd_X12_wipe_4 : decode mb_X12_wipe 4 = .ok (.istore_n 1, 1) := by decide +kernel
theorem dd_X12_wipe_5 : decode mb_X12_wipe 5 = .ok (.aload_n 0, 1) := by decide +kernel
theorem dd_X12_wipe_6 : decode mb_X12_wipe 6 = .ok (.iconst 0, 1) := by decide +kernel
theorem dd_X12_wipe_7 : decode mb_X12_wipe 7 = .ok (.putfield 199, 3) := by decide +kernel
theorem dd_X12_wipe_10 : decode mb_X12_wipe 10 = .ok (.iload_n 1, 1) := by decide +kernel
theorem dd_X12_wipe_11 : decode mb_X12_wipe 11 = .ok (.ireturn, 1) := by decide +kernel
theorem dd_X1_become_0 : decode mb_X1_become 0 = .ok (.aload_n 0, 1) := by decide +kernel
theorem dd_X1_become_1 : decode mb_X1_become 1 = .ok (.getfield 12, 3) := by decide +kernel
theorem dd_X1_become_4 : decode mb_X1_become 4 = .ok (.aload_n 1, 1) := by decide +kernel
theorem dd_X1_become_5 : decode mb_X1_become 5 = .ok (.getfield 12, 3) := by decide +kernel
theorem dd_X1_become_8 : decode mb_X1_become 8 = .ok (.invokevirtual 145, 3) := by decide +kernel
theorem dd_X1_become_11 : decode mb_X1_become 11 = .ok (.aload_n 0, 1) := by decide +kernel
theorem dd_X1_become_12 : decode mb_X1_become 12 = .ok (.getfield 21, 3) := by decide +kernel
theorem dd_X1_become_15 : decode mb_X1_become 15 = .ok (.aload_n 1, 1) := by decide +kernel
theorem dd_X1_become_16 : decode mb_X1_become 16 = .ok (.getfield 21, 3) := by decide +kernel
theorem dd_X1_become_19 : decode mb_X1_become 19 = .ok (.invokevirtual 149, 3) := by decide +kernel
theorem dd_X1_become_22 : decode mb_X1_become 22 = .ok (.aload_n 0, 1) := by decide +kernel
theorem dd_X1_become_23 : decode mb_X1_become 23 = .ok (.getfield 28, 3) := by decide +kernel
theorem dd_X1_become_26 : decode mb_X1_become 26 = .ok (.aload_n 1, 1) := by decide +kernel
theorem dd_X1_become_27 : decode mb_X1_become 27 = .ok (.getfield 28, 3) := by decide +kernel
theorem dd_X1_become_30 : decode mb_X1_become 30 = .ok (.invokevirtual 152, 3) := by decide +kernel
theorem dd_X1_become_33 : decode mb_X1_become 33 = .ok (.aload_n 0, 1) := by decide +kernel
theorem dd_X1_become_34 : decode mb_X1_become 34 = .ok (.getfield 35, 3) := by decide +kernel
theorem dd_X1_become_37 : decode mb_X1_become 37 = .ok (.aload_n 1, 1) := by decide +kernel
theorem dd_X1_become_38 : decode mb_X1_become 38 = .ok (.getfield 35, 3) := by decide +kernel
theorem dd_X1_become_41 : decode mb_X1_become 41 = .ok (.invokevirtual 155, 3) := by decide +kernel
theorem dd_X1_become_44 : decode mb_X1_become 44 = .ok (.aload_n 0, 1) := by decide +kernel
theorem dd_X1_become_45 : decode mb_X1_become 45 = .ok (.getfield 42, 3) := by decide +kernel
theorem dd_X1_become_48 : decode mb_X1_become 48 = .ok (.aload_n 1, 1) := by decide +kernel
theorem dd_X1_become_49 : decode mb_X1_become 49 = .ok (.getfield 42, 3) := by decide +kernel
theorem dd_X1_become_52 : decode mb_X1_become 52 = .ok (.invokevirtual 158, 3) := by decide +kernel
theorem dd_X1_become_55 : decode mb_X1_become 55 = .ok (.aload_n 0, 1) := by decide +kernel
theorem dd_X1_become_56 : decode mb_X1_become 56 = .ok (.getfield 49, 3) := by decide +kernel
theorem dd_X1_become_59 : decode mb_X1_become 59 = .ok (.aload_n 1, 1) := by decide +kernel
theorem dd_X1_become_60 : decode mb_X1_become 60 = .ok (.getfield 49, 3) := by decide +kernel
theorem dd_X1_become_63 : decode mb_X1_become 63 = .ok (.invokevirtual 161, 3) := by decide +kernel
theorem dd_X1_become_66 : decode mb_X1_become 66 = .ok (.aload_n 1, 1) := by decide +kernel
theorem dd_X1_become_67 : decode mb_X1_become 67 = .ok (.getfield 53, 3) := by decide +kernel
theorem dd_X1_become_70 : decode mb_X1_become 70 = .ok (.iconst 0, 1) := by decide +kernel
theorem dd_X1_become_71 : decode mb_X1_become 71 = .ok (.aload_n 0, 1) := by decide +kernel
theorem dd_X1_become_72 : decode mb_X1_become 72 = .ok (.getfield 53, 3) := by decide +kernel
theorem dd_X1_become_75 : decode mb_X1_become 75 = .ok (.iconst 0, 1) := by decide +kernel
theorem dd_X1_become_76 : decode mb_X1_become 76 = .ok (.iconst 5, 1) := by decide +kernel
theorem dd_X1_become_77 : decode mb_X1_become 77 = .ok (.invokestatic 164, 3) := by decide +kernel
theorem dd_X1_become_80 : decode mb_X1_become 80 = .ok (.aload_n 0, 1) := by decide +kernel
theorem dd_X1_become_81 : decode mb_X1_become 81 = .ok (.aload_n 1, 1) := by decide +kernel
theorem dd_X1_become_82 : decode mb_X1_become 82 = .ok (.getfield 57, 3) := by decide +kernel
theorem dd_X1_become_85 : decode mb_X1_become 85 = .ok (.putfield 57, 3) := by decide +kernel
theorem dd_X1_become_88 : decode mb_X1_become 88 = .ok (.aload_n 0, 1) := by decide +kernel
theorem dd_X1_become_89 : decode mb_X1_become 89 = .ok (.aload_n 1, 1) := by decide +kernel
theorem dd_X1_become_90 : decode mb_X1_become 90 = .ok (.getfield 61, 3) := by decide +kernel
theorem dd_X1_become_93 : decode mb_X1_become 93 = .ok (.putfield 61, 3) := by decide +kernel
theorem dd_X1_become_96 : decode mb_X1_become 96 = .ok (.aload_n 0, 1) := by decide +kernel
theorem dd_X1_become_97 : decode mb_X1_become 97 = .ok (.aload_n 1, 1) := by decide +kernel
theorem dd_X1_become_98 : decode mb_X1_become 98 = .ok (.getfield 64, 3) := by decide +kernel
theorem dd_X1_become_101 : decode mb_X1_become 101 = .ok (.putfield 64, 3) := by decide +kernel
theorem dd_X1_become_104 : decode mb_X1_become 104 = .ok (.aload_n 0, 1) := by decide +kernel
theorem dd_X1_become_105 : decode mb_X1_become 105 = .ok (.aload_n 1, 1) := by decide +kernel
theorem dd_X1_become_106 : decode mb_X1_become 106 = .ok (.getfield 67, 3) := by decide +kernel
theorem dd_X1_become_109 : decode mb_X1_become 109 = .ok (.putfield 67, 3) := by decide +kernel
theorem dd_X1_become_112 : decode mb_X1_become 112 = .ok (.aload_n 0, 1) := by decide +kernel
theorem dd_X1_become_113 : decode mb_X1_become 113 = .ok (.aload_n 1, 1) := by decide +kernel
theorem dd_X1_become_114 : decode mb_X1_become 114 = .ok (.getfield 70, 3) := by decide +kernel
theorem dd_X1_become_117 : decode mb_X1_become 117 = .ok (.putfield 70, 3) := by decide +kernel
theorem dd_X1_become_120 : decode mb_X1_become 120 = .ok (.return_, 1) := by decide +kernel
theorem dd_X1_bestLady_0 : decode mb_X1_bestLady 0 = .ok (.iconst (-1), 1) := by decide +kernel
theorem dd_X1_bestLady_1 : decode mb_X1_bestLady 1 = .ok (.istore_n 3, 1) := by decide +kernel
theorem dd_X1_bestLady_2 : decode mb_X1_bestLady 2 = .ok (.iconst 0, 1) := by decide +kernel
theorem dd_X1_bestLady_3 : decode mb_X1_bestLady 3 = .ok (.istore 4, 2) := by decide +kernel
theorem dd_X1_bestLady_5 : decode mb_X1_bestLady 5 = .ok (.iload_n 2, 1) := by decide +kernel
theorem dd_X1_bestLady_6 : decode mb_X1_bestLady 6 = .ok (.aload_n 0, 1) := by decide +kernel
theorem dd_X1_bestLady_7 : decode mb_X1_bestLady 7 = .ok (.getfield 57, 3) := by decide +kernel
theorem dd_X1_bestLady_10 : decode mb_X1_bestLady 10 = .ok (.if_icmp .lt 5, 3) := by decide +kernel
theorem dd_X1_bestLady_13 : decode mb_X1_bestLady 13 = .ok (.iconst (-1), 1) := by decide +kernel
theorem dd_X1_bestLady_14 : decode mb_X1_bestLady 14 = .ok (.ireturn, 1) := by decide +kernel
theorem dd_X1_planTables_0 : decode mb_X1_planTables 0 = .ok (.iconst 0, 1) := by decide +kernel
theorem dd_X1_planTables_1 : decode mb_X1_planTables 1 = .ok (.istore_n 1, 1) := by decide +kernel
theorem dd_X1_planTables_2 : decode mb_X1_planTables 2 = .ok (.iload_n 1, 1) := by decide +kernel
theorem dd_X1_planTables_3 : decode mb_X1_planTables 3 = .ok (.aload_n 0, 1) := by decide +kernel
theorem dd_X1_planTables_4 : decode mb_X1_planTables 4 = .ok (.getfield 21, 3) := by decide +kernel
theorem dd_X1_planTables_7 : decode mb_X1_planTables 7 = .ok (.getfield 130, 3) := by decide +kernel
theorem dd_X1_planTables_10 : decode mb_X1_planTables 10 = .ok (.if_icmp .ge 46, 3) := by decide +kernel
theorem dd_X1_planTables_56 : decode mb_X1_planTables 56 = .ok (.iconst 1, 1) := by decide +kernel
theorem dd_X1_planTables_57 : decode mb_X1_planTables 57 = .ok (.aload_n 0, 1) := by decide +kernel
theorem dd_X1_planTables_58 : decode mb_X1_planTables 58 = .ok (.getfield 21, 3) := by decide +kernel
theorem dd_X1_planTables_61 : decode mb_X1_planTables 61 = .ok (.getfield 130, 3) := by decide +kernel
theorem dd_X1_planTables_64 : decode mb_X1_planTables 64 = .ok (.ishl, 1) := by decide +kernel
theorem dd_X1_planTables_65 : decode mb_X1_planTables 65 = .ok (.iconst 1, 1) := by decide +kernel
theorem dd_X1_planTables_66 : decode mb_X1_planTables 66 = .ok (.isub, 1) := by decide +kernel
theorem dd_X1_planTables_67 : decode mb_X1_planTables 67 = .ok (.istore_n 1, 1) := by decide +kernel
theorem dd_X1_planTables_68 : decode mb_X1_planTables 68 = .ok (.iload_n 1, 1) := by decide +kernel
theorem dd_X1_planTables_69 : decode mb_X1_planTables 69 = .ok (.ifCond .lt 43, 3) := by decide +kernel
theorem dd_X1_planTables_72 : decode mb_X1_planTables 72 = .ok (.iload_n 1, 1) := by decide +kernel
theorem dd_X1_planTables_73 : decode mb_X1_planTables 73 = .ok (.invokestatic 134, 3) := by decide +kernel
theorem dd_X1_planTables_76 : decode mb_X1_planTables 76 = .ok (.istore_n 2, 1) := by decide +kernel
theorem dd_X1_planTables_77 : decode mb_X1_planTables 77 = .ok (.aload_n 0, 1) := by decide +kernel
theorem dd_X1_planTables_78 : decode mb_X1_planTables 78 = .ok (.iload_n 1, 1) := by decide +kernel
theorem dd_X1_planTables_79 : decode mb_X1_planTables 79 = .ok (.iload_n 2, 1) := by decide +kernel
theorem dd_X1_planTables_80 : decode mb_X1_planTables 80 = .ok (.invokevirtual 139, 3) := by decide +kernel
theorem dd_X1_planTables_83 : decode mb_X1_planTables 83 = .ok (.istore_n 3, 1) := by decide +kernel
theorem dd_X1_planTables_84 : decode mb_X1_planTables 84 = .ok (.aload_n 0, 1) := by decide +kernel
theorem dd_X1_planTables_85 : decode mb_X1_planTables 85 = .ok (.getfield 76, 3) := by decide +kernel
theorem dd_X1_planTables_88 : decode mb_X1_planTables 88 = .ok (.iload_n 1, 1) := by decide +kernel
theorem dd_X1_planTables_89 : decode mb_X1_planTables 89 = .ok (.iload_n 3, 1) := by decide +kernel
theorem dd_X1_planTables_90 : decode mb_X1_planTables 90 = .ok (.iconst (-1), 1) := by decide +kernel
theorem dd_X1_planTables_91 : decode mb_X1_planTables 91 = .ok (.if_icmp .ne 7, 3) := by decide +kernel
theorem dd_X1_planTables_94 : decode mb_X1_planTables 94 = .ok (.iconst 0, 1) := by decide +kernel
theorem dd_X1_planTables_95 : decode mb_X1_planTables 95 = .ok (.goto 10, 3) := by decide +kernel
theorem dd_X1_planTables_105 : decode mb_X1_planTables 105 = .ok (.iastore, 1) := by decide +kernel
theorem dd_X1_planTables_106 : decode mb_X1_planTables 106 = .ok (.iinc 1 (-1), 3) := by decide +kernel
theorem dd_X1_planTables_109 : decode mb_X1_planTables 109 = .ok (.goto (-41), 3) := by decide +kernel
theorem dd_X1_planTables_112 : decode mb_X1_planTables 112 = .ok (.return_, 1) := by decide +kernel
theorem dd_X2_add_0 : decode mb_X2_add 0 = .ok (.aload_n 0, 1) := by decide +kernel
theorem dd_X2_add_1 : decode mb_X2_add 1 = .ok (.getfield 9, 3) := by decide +kernel
theorem dd_X2_add_4 : decode mb_X2_add 4 = .ok (.aload_n 0, 1) := by decide +kernel
theorem dd_X2_add_5 : decode mb_X2_add 5 = .ok (.getfield 21, 3) := by decide +kernel
theorem dd_X2_add_8 : decode mb_X2_add 8 = .ok (.iload_n 1, 1) := by decide +kernel
theorem dd_X2_add_9 : decode mb_X2_add 9 = .ok (.iastore, 1) := by decide +kernel
theorem dd_X2_add_10 : decode mb_X2_add 10 = .ok (.aload_n 0, 1) := by decide +kernel
theorem dd_X2_add_11 : decode mb_X2_add 11 = .ok (.getfield 15, 3) := by decide +kernel
theorem dd_X2_add_14 : decode mb_X2_add 14 = .ok (.aload_n 0, 1) := by decide +kernel
theorem dd_X2_add_15 : decode mb_X2_add 15 = .ok (.getfield 21, 3) := by decide +kernel
theorem dd_X2_add_18 : decode mb_X2_add 18 = .ok (.iload_n 2, 1) := by decide +kernel
theorem dd_X2_add_19 : decode mb_X2_add 19 = .ok (.iastore, 1) := by decide +kernel
theorem dd_X2_add_20 : decode mb_X2_add 20 = .ok (.aload_n 0, 1) := by decide +kernel
theorem dd_X2_add_21 : decode mb_X2_add 21 = .ok (.getfield 18, 3) := by decide +kernel
theorem dd_X2_add_24 : decode mb_X2_add 24 = .ok (.aload_n 0, 1) := by decide +kernel
theorem dd_X2_add_25 : decode mb_X2_add 25 = .ok (.getfield 21, 3) := by decide +kernel
theorem dd_X2_add_28 : decode mb_X2_add 28 = .ok (.iconst (-1), 1) := by decide +kernel
theorem dd_X2_add_29 : decode mb_X2_add 29 = .ok (.iastore, 1) := by decide +kernel
theorem dd_X2_add_30 : decode mb_X2_add 30 = .ok (.aload_n 0, 1) := by decide +kernel
theorem dd_X2_add_31 : decode mb_X2_add 31 = .ok (.dup, 1) := by decide +kernel
theorem dd_X2_add_32 : decode mb_X2_add 32 = .ok (.getfield 21, 3) := by decide +kernel
theorem dd_X2_add_35 : decode mb_X2_add 35 = .ok (.iconst 1, 1) := by decide +kernel
theorem dd_X2_add_36 : decode mb_X2_add 36 = .ok (.iadd, 1) := by decide +kernel
theorem dd_X2_add_37 : decode mb_X2_add 37 = .ok (.putfield 21, 3) := by decide +kernel
theorem dd_X2_add_40 : decode mb_X2_add 40 = .ok (.aload_n 0, 1) := by decide +kernel
theorem dd_X2_add_41 : decode mb_X2_add 41 = .ok (.getfield 21, 3) := by decide +kernel
theorem dd_X2_add_44 : decode mb_X2_add 44 = .ok (.iconst 1, 1) := by decide +kernel
theorem dd_X2_add_45 : decode mb_X2_add 45 = .ok (.isub, 1) := by decide +kernel
theorem dd_X2_add_46 : decode mb_X2_add 46 = .ok (.ireturn, 1) := by decide +kernel
theorem dd_X2_become_0 : decode mb_X2_become 0 = .ok (.aload_n 1, 1) := by decide +kernel
theorem dd_X2_become_1 : decode mb_X2_become 1 = .ok (.getfield 9, 3) := by decide +kernel
theorem dd_X2_become_4 : decode mb_X2_become 4 = .ok (.iconst 0, 1) := by decide +kernel
theorem dd_X2_become_5 : decode mb_X2_become 5 = .ok (.aload_n 0, 1) := by decide +kernel
theorem dd_X2_become_6 : decode mb_X2_become 6 = .ok (.getfield 9, 3) := by decide +kernel
theorem dd_X2_become_9 : decode mb_X2_become 9 = .ok (.iconst 0, 1) := by decide +kernel
theorem dd_X2_become_10 : decode mb_X2_become 10 = .ok (.iconst 5, 1) := by decide +kernel
theorem dd_X2_become_11 : decode mb_X2_become 11 = .ok (.invokestatic 29, 3) := by decide +kernel
theorem dd_X2_become_14 : decode mb_X2_become 14 = .ok (.aload_n 1, 1) := by decide +kernel
theorem dd_X2_become_15 : decode mb_X2_become 15 = .ok (.getfield 15, 3) := by decide +kernel
theorem dd_X2_become_18 : decode mb_X2_become 18 = .ok (.iconst 0, 1) := by decide +kernel
theorem dd_X2_become_19 : decode mb_X2_become 19 = .ok (.aload_n 0, 1) := by decide +kernel
theorem dd_X2_become_20 : decode mb_X2_become 20 = .ok (.getfield 15, 3) := by decide +kernel
theorem dd_X2_become_23 : decode mb_X2_become 23 = .ok (.iconst 0, 1) := by decide +kernel
theorem dd_X2_become_24 : decode mb_X2_become 24 = .ok (.iconst 5, 1) := by decide +kernel
theorem dd_X2_become_25 : decode mb_X2_become 25 = .ok (.invokestatic 29, 3) := by decide +kernel
theorem dd_X2_become_28 : decode mb_X2_become 28 = .ok (.aload_n 1, 1) := by decide +kernel
theorem dd_X2_become_29 : decode mb_X2_become 29 = .ok (.getfield 18, 3) := by decide +kernel
theorem dd_X2_become_32 : decode mb_X2_become 32 = .ok (.iconst 0, 1) := by decide +kernel
theorem dd_X2_become_33 : decode mb_X2_become 33 = .ok (.aload_n 0, 1) := by decide +kernel
theorem dd_X2_become_34 : decode mb_X2_become 34 = .ok (.getfield 18, 3) := by decide +kernel
theorem dd_X2_become_37 : decode mb_X2_become 37 = .ok (.iconst 0, 1) := by decide +kernel
theorem dd_X2_become_38 : decode mb_X2_become 38 = .ok (.iconst 5, 1) := by decide +kernel
theorem dd_X2_become_39 : decode mb_X2_become 39 = .ok (.invokestatic 29, 3) := by decide +kernel
theorem dd_X2_become_42 : decode mb_X2_become 42 = .ok (.aload_n 0, 1) := by decide +kernel
theorem dd_X2_become_43 : decode mb_X2_become 43 = .ok (.aload_n 1, 1) := by decide +kernel
theorem dd_X2_become_44 : decode mb_X2_become 44 = .ok (.getfield 21, 3) := by decide +kernel
theorem dd_X2_become_47 : decode mb_X2_become 47 = .ok (.putfield 21, 3) := by decide +kernel
theorem dd_X2_become_50 : decode mb_X2_become 50 = .ok (.return_, 1) := by decide +kernel
theorem dd_X2_has_0 : decode mb_X2_has 0 = .ok (.iload_n 1, 1) := by decide +kernel
theorem dd_X2_has_1 : decode mb_X2_has 1 = .ok (.iconst 0, 1) := by decide +kernel
theorem dd_X2_has_2 : decode mb_X2_has 2 = .ok (.aload_n 0, 1) := by decide +kernel
theorem dd_X2_has_3 : decode mb_X2_has 3 = .ok (.getfield 21, 3) := by decide +kernel
theorem dd_X2_has_6 : decode mb_X2_has 6 = .ok (.iconst 1, 1) := by decide +kernel
theorem dd_X2_has_7 : decode mb_X2_has 7 = .ok (.isub, 1) := by decide +kernel
theorem dd_X2_has_8 : decode mb_X2_has 8 = .ok (.invokestatic 25, 3) := by decide +kernel
theorem dd_X2_has_11 : decode mb_X2_has 11 = .ok (.ireturn, 1) := by decide +kernel
theorem dd_X3_become_0 : decode mb_X3_become 0 = .ok (.aload_n 1, 1) := by decide +kernel
theorem dd_X3_become_1 : decode mb_X3_become 1 = .ok (.getfield 11, 3) := by decide +kernel
theorem dd_X3_become_4 : decode mb_X3_become 4 = .ok (.iconst 0, 1) := by decide +kernel
theorem dd_X3_become_5 : decode mb_X3_become 5 = .ok (.aload_n 0, 1) := by decide +kernel
theorem dd_X3_become_6 : decode mb_X3_become 6 = .ok (.getfield 11, 3) := by decide +kernel
theorem dd_X3_become_9 : decode mb_X3_become 9 = .ok (.iconst 0, 1) := by decide +kernel
theorem dd_X3_become_10 : decode mb_X3_become 10 = .ok (.aload_n 0, 1) := by decide +kernel
theorem dd_X3_become_11 : decode mb_X3_become 11 = .ok (.getfield 11, 3) := by decide +kernel
theorem dd_X3_become_14 : decode mb_X3_become 14 = .ok (.arraylength, 1) := by decide +kernel
theorem dd_X3_become_15 : decode mb_X3_become 15 = .ok (.invokestatic 39, 3) := by decide +kernel
theorem dd_X3_become_18 : decode mb_X3_become 18 = .ok (.aload_n 0, 1) := by decide +kernel
theorem dd_X3_become_19 : decode mb_X3_become 19 = .ok (.aload_n 1, 1) := by decide +kernel
theorem dd_X3_become_20 : decode mb_X3_become 20 = .ok (.getfield 18, 3) := by decide +kernel
theorem dd_X3_become_23 : decode mb_X3_become 23 = .ok (.putfield 18, 3) := by decide +kernel
theorem dd_X3_become_26 : decode mb_X3_become 26 = .ok (.return_, 1) := by decide +kernel
theorem dd_X3_has_0 : decode mb_X3_has 0 = .ok (.iload_n 1, 1) := by decide +kernel
theorem dd_X3_has_1 : decode mb_X3_has 1 = .ok (.iconst 0, 1) := by decide +kernel
theorem dd_X3_has_2 : decode mb_X3_has 2 = .ok (.aload_n 0, 1) := by decide +kernel
theorem dd_X3_has_3 : decode mb_X3_has 3 = .ok (.getfield 18, 3) := by decide +kernel
theorem dd_X3_has_6 : decode mb_X3_has 6 = .ok (.iconst 1, 1) := by decide +kernel
theorem dd_X3_has_7 : decode mb_X3_has 7 = .ok (.isub, 1) := by decide +kernel
theorem dd_X3_has_8 : decode mb_X3_has 8 = .ok (.invokestatic 28, 3) := by decide +kernel
theorem dd_X3_has_11 : decode mb_X3_has 11 = .ok (.ireturn, 1) := by decide +kernel
theorem dd_X4_bargains_0 : decode mb_X4_bargains 0 = .ok (.iconst 0, 1) := by decide +kernel
theorem dd_X4_bargains_1 : decode mb_X4_bargains 1 = .ok (.istore_n 3, 1) := by decide +kernel
theorem dd_X4_bargains_2 : decode mb_X4_bargains 2 = .ok (.iload_n 3, 1) := by decide +kernel
theorem dd_X4_bargains_3 : decode mb_X4_bargains 3 = .ok (.iload_n 2, 1) := by decide +kernel
theorem dd_X4_bargains_4 : decode mb_X4_bargains 4 = .ok (.if_icmp .gt 23, 3) := by decide +kernel
theorem dd_X4_bargains_7 : decode mb_X4_bargains 7 = .ok (.aload_n 0, 1) := by decide +kernel
theorem dd_X4_bargains_8 : decode mb_X4_bargains 8 = .ok (.getfield 9, 3) := by decide +kernel
theorem dd_X4_bargains_11 : decode mb_X4_bargains 11 = .ok (.iload_n 3, 1) := by decide +kernel
theorem dd_X4_bargains_12 : decode mb_X4_bargains 12 = .ok (.iconst 0, 1) := by decide +kernel
theorem dd_X4_bargains_13 : decode mb_X4_bargains 13 = .ok (.iastore, 1) := by decide +kernel
theorem dd_X4_bargains_14 : decode mb_X4_bargains 14 = .ok (.aload_n 0, 1) := by decide +kernel
theorem dd_X4_bargains_15 : decode mb_X4_bargains 15 = .ok (.getfield 15, 3) := by decide +kernel
theorem dd_X4_bargains_18 : decode mb_X4_bargains 18 = .ok (.iload_n 3, 1) := by decide +kernel
theorem dd_X4_bargains_19 : decode mb_X4_bargains 19 = .ok (.iconst 0, 1) := by decide +kernel
theorem dd_X4_bargains_20 : decode mb_X4_bargains 20 = .ok (.iastore, 1) := by decide +kernel
theorem dd_X4_bargains_21 : decode mb_X4_bargains 21 = .ok (.iinc 3 1, 3) := by decide +kernel
theorem dd_X4_bargains_24 : decode mb_X4_bargains 24 = .ok (.goto (-22), 3) := by decide +kernel
theorem dd_X4_bargains_27 : decode mb_X4_bargains 27 = .ok (.iconst 0, 1) := by decide +kernel
theorem dd_X4_bargains_28 : decode mb_X4_bargains 28 = .ok (.istore_n 3, 1) := by decide +kernel
theorem dd_X4_bargains_29 : decode mb_X4_bargains 29 = .ok (.iload_n 3, 1) := by decide +kernel
theorem dd_X4_bargains_30 : decode mb_X4_bargains 30 = .ok (.aload_n 1, 1) := by decide +kernel
theorem dd_X4_bargains_31 : decode mb_X4_bargains 31 = .ok (.getfield 18, 3) := by decide +kernel
theorem dd_X4_bargains_34 : decode mb_X4_bargains 34 = .ok (.if_icmp .ge 43, 3) := by decide +kernel
theorem dd_X4_bargains_77 : decode mb_X4_bargains 77 = .ok (.aload_n 0, 1) := by decide +kernel
theorem dd_X4_bargains_78 : decode mb_X4_bargains 78 = .ok (.getfield 9, 3) := by decide +kernel
theorem dd_X4_bargains_81 : decode mb_X4_bargains 81 = .ok (.iload_n 2, 1) := by decide +kernel
theorem dd_X4_bargains_82 : decode mb_X4_bargains 82 = .ok (.iaload, 1) := by decide +kernel
theorem dd_X4_bargains_83 : decode mb_X4_bargains 83 = .ok (.ireturn, 1) := by decide +kernel
theorem dd_X4_fewestPaid_0 : decode mb_X4_fewestPaid 0 = .ok (.aload_n 0, 1) := by decide +kernel
theorem dd_X4_fewestPaid_1 : decode mb_X4_fewestPaid 1 = .ok (.getfield 9, 3) := by decide +kernel
theorem dd_X4_fewestPaid_4 : decode mb_X4_fewestPaid 4 = .ok (.iconst 0, 1) := by decide +kernel
theorem dd_X4_fewestPaid_5 : decode mb_X4_fewestPaid 5 = .ok (.iconst 0, 1) := by decide +kernel
theorem dd_X4_fewestPaid_6 : decode mb_X4_fewestPaid 6 = .ok (.iastore, 1) := by decide +kernel
theorem dd_X4_fewestPaid_7 : decode mb_X4_fewestPaid 7 = .ok (.iconst 1, 1) := by decide +kernel
theorem dd_X4_fewestPaid_8 : decode mb_X4_fewestPaid 8 = .ok (.istore_n 3, 1) := by decide +kernel
theorem dd_X4_fewestPaid_9 : decode mb_X4_fewestPaid 9 = .ok (.iload_n 3, 1) := by decide +kernel
theorem dd_X4_fewestPaid_10 : decode mb_X4_fewestPaid 10 = .ok (.iload_n 2, 1) := by decide +kernel
theorem dd_X4_fewestPaid_11 : decode mb_X4_fewestPaid 11 = .ok (.if_icmp .gt 16, 3) := by decide +kernel
theorem dd_X4_fewestPaid_14 : decode mb_X4_fewestPaid 14 = .ok (.aload_n 0, 1) := by decide +kernel
theorem dd_X4_fewestPaid_15 : decode mb_X4_fewestPaid 15 = .ok (.getfield 9, 3) := by decide +kernel
theorem dd_X4_fewestPaid_18 : decode mb_X4_fewestPaid 18 = .ok (.iload_n 3, 1) := by decide +kernel
theorem dd_X4_fewestPaid_19 : decode mb_X4_fewestPaid 19 = .ok (.iconst (-1), 1) := by decide +kernel
theorem dd_X4_fewestPaid_20 : decode mb_X4_fewestPaid 20 = .ok (.iastore, 1) := by decide +kernel
theorem dd_X4_fewestPaid_21 : decode mb_X4_fewestPaid 21 = .ok (.iinc 3 1, 3) := by decide +kernel
theorem dd_X4_fewestPaid_24 : decode mb_X4_fewestPaid 24 = .ok (.goto (-15), 3) := by decide +kernel
theorem dd_X4_fewestPaid_27 : decode mb_X4_fewestPaid 27 = .ok (.iconst 0, 1) := by decide +kernel
theorem dd_X4_fewestPaid_28 : decode mb_X4_fewestPaid 28 = .ok (.istore_n 3, 1) := by decide +kernel
theorem dd_X4_fewestPaid_29 : decode mb_X4_fewestPaid 29 = .ok (.iconst 0, 1) := by decide +kernel
theorem dd_X4_fewestPaid_30 : decode mb_X4_fewestPaid 30 = .ok (.istore 4, 2) := by decide +kernel
theorem dd_X4_fewestPaid_32 : decode mb_X4_fewestPaid 32 = .ok (.iload 4, 2) := by decide +kernel
theorem dd_X4_fewestPaid_34 : decode mb_X4_fewestPaid 34 = .ok (.aload_n 1, 1) := by decide +kernel
theorem dd_X4_fewestPaid_35 : decode mb_X4_fewestPaid 35 = .ok (.getfield 18, 3) := by decide +kernel
theorem dd_X4_fewestPaid_38 : decode mb_X4_fewestPaid 38 = .ok (.if_icmp .ge 46, 3) := by decide +kernel
theorem dd_X4_fewestPaid_84 : decode mb_X4_fewestPaid 84 = .ok (.aload_n 0, 1) := by decide +kernel
theorem dd_X4_fewestPaid_85 : decode mb_X4_fewestPaid 85 = .ok (.getfield 9, 3) := by decide +kernel
theorem dd_X4_fewestPaid_88 : decode mb_X4_fewestPaid 88 = .ok (.iload_n 2, 1) := by decide +kernel
theorem dd_X4_fewestPaid_89 : decode mb_X4_fewestPaid 89 = .ok (.iaload, 1) := by decide +kernel
theorem dd_X4_fewestPaid_90 : decode mb_X4_fewestPaid 90 = .ok (.ireturn, 1) := by decide +kernel
theorem dd_X5_bestTurns_0 : decode mb_X5_bestTurns 0 = .ok (.iconst (-1), 1) := by decide +kernel
theorem dd_X5_bestTurns_1 : decode mb_X5_bestTurns 1 = .ok (.istore_n 2, 1) := by decide +kernel
theorem dd_X5_bestTurns_2 : decode mb_X5_bestTurns 2 = .ok (.iconst (-1), 1) := by decide +kernel
theorem dd_X5_bestTurns_3 : decode mb_X5_bestTurns 3 = .ok (.istore_n 3, 1) := by decide +kernel
theorem dd_X5_bestTurns_4 : decode mb_X5_bestTurns 4 = .ok (.bipush 12, 2) := by decide +kernel
theorem dd_X5_bestTurns_6 : decode mb_X5_bestTurns 6 = .ok (.istore 4, 2) := by decide +kernel
theorem dd_X5_bestTurns_8 : decode mb_X5_bestTurns 8 = .ok (.iload 4, 2) := by decide +kernel
theorem dd_X5_bestTurns_10 : decode mb_X5_bestTurns 10 = .ok (.ifCond .lt 55, 3) := by decide +kernel
theorem dd_X5_bestTurns_13 : decode mb_X5_bestTurns 13 = .ok (.bipush 12, 2) := by decide +kernel
theorem dd_X5_bestTurns_15 : decode mb_X5_bestTurns 15 = .ok (.istore 5, 2) := by decide +kernel
theorem dd_X5_bestTurns_17 : decode mb_X5_bestTurns 17 = .ok (.iload 5, 2) := by decide +kernel
theorem dd_X5_bestTurns_19 : decode mb_X5_bestTurns 19 = .ok (.iload 4, 2) := by decide +kernel
theorem dd_X5_bestTurns_21 : decode mb_X5_bestTurns 21 = .ok (.if_icmp .lt 38, 3) := by decide +kernel
theorem dd_X5_bestTurns_24 : decode mb_X5_bestTurns 24 = .ok (.aload_n 0, 1) := by decide +kernel
theorem dd_X5_bestTurns_25 : decode mb_X5_bestTurns 25 = .ok (.aload_n 1, 1) := by decide +kernel
theorem dd_X5_bestTurns_26 : decode mb_X5_bestTurns 26 = .ok (.iload 4, 2) := by decide +kernel
theorem dd_X5_bestTurns_28 : decode mb_X5_bestTurns 28 = .ok (.iload 5, 2) := by decide +kernel
theorem dd_X5_bestTurns_30 : decode mb_X5_bestTurns 30 = .ok (.invokevirtual 112, 3) := by decide +kernel
theorem dd_X5_bestTurns_33 : decode mb_X5_bestTurns 33 = .ok (.istore 6, 2) := by decide +kernel
theorem dd_X5_bestTurns_35 : decode mb_X5_bestTurns 35 = .ok (.iload 6, 2) := by decide +kernel
theorem dd_X5_bestTurns_37 : decode mb_X5_bestTurns 37 = .ok (.iload_n 3, 1) := by decide +kernel
theorem dd_X5_bestTurns_38 : decode mb_X5_bestTurns 38 = .ok (.if_icmp .le 15, 3) := by decide +kernel
theorem dd_X5_bestTurns_41 : decode mb_X5_bestTurns 41 = .ok (.bipush 100, 2) := by decide +kernel
theorem dd_X5_bestTurns_43 : decode mb_X5_bestTurns 43 = .ok (.iload 4, 2) := by decide +kernel
theorem dd_X5_bestTurns_45 : decode mb_X5_bestTurns 45 = .ok (.imul, 1) := by decide +kernel
theorem dd_X5_bestTurns_46 : decode mb_X5_bestTurns 46 = .ok (.iload 5, 2) := by decide +kernel
theorem dd_X5_bestTurns_48 : decode mb_X5_bestTurns 48 = .ok (.iadd, 1) := by decide +kernel
theorem dd_X5_bestTurns_49 : decode mb_X5_bestTurns 49 = .ok (.istore_n 2, 1) := by decide +kernel
theorem dd_X5_bestTurns_50 : decode mb_X5_bestTurns 50 = .ok (.iload 6, 2) := by decide +kernel
theorem dd_X5_bestTurns_52 : decode mb_X5_bestTurns 52 = .ok (.istore_n 3, 1) := by decide +kernel
theorem dd_X5_bestTurns_53 : decode mb_X5_bestTurns 53 = .ok (.iinc 5 (-1), 3) := by decide +kernel
theorem dd_X5_bestTurns_56 : decode mb_X5_bestTurns 56 = .ok (.goto (-39), 3) := by decide +kernel
theorem dd_X5_bestTurns_59 : decode mb_X5_bestTurns 59 = .ok (.iinc 4 (-1), 3) := by decide +kernel
theorem dd_X5_bestTurns_62 : decode mb_X5_bestTurns 62 = .ok (.goto (-54), 3) := by decide +kernel
theorem dd_X5_bestTurns_65 : decode mb_X5_bestTurns 65 = .ok (.iload_n 2, 1) := by decide +kernel
theorem dd_X5_bestTurns_66 : decode mb_X5_bestTurns 66 = .ok (.ireturn, 1) := by decide +kernel
theorem dd_X5_open_0 : decode mb_X5_open 0 = .ok (.aload_n 1, 1) := by decide +kernel
theorem dd_X5_open_1 : decode mb_X5_open 1 = .ok (.getfield 40, 3) := by decide +kernel
theorem dd_X5_open_4 : decode mb_X5_open 4 = .ok (.astore 4, 2) := by decide +kernel
theorem dd_X5_open_6 : decode mb_X5_open 6 = .ok (.aload_n 0, 1) := by decide +kernel
theorem dd_X5_open_7 : decode mb_X5_open 7 = .ok (.iload_n 2, 1) := by decide +kernel
theorem dd_X5_open_8 : decode mb_X5_open 8 = .ok (.putfield 9, 3) := by decide +kernel
theorem dd_X5_open_11 : decode mb_X5_open 11 = .ok (.aload_n 0, 1) := by decide +kernel
theorem dd_X5_open_12 : decode mb_X5_open 12 = .ok (.iload_n 3, 1) := by decide +kernel
theorem dd_X5_open_13 : decode mb_X5_open 13 = .ok (.putfield 15, 3) := by decide +kernel
theorem dd_X5_open_16 : decode mb_X5_open 16 = .ok (.aload_n 0, 1) := by decide +kernel
theorem dd_X5_open_17 : decode mb_X5_open 17 = .ok (.iconst 0, 1) := by decide +kernel
theorem dd_X5_open_18 : decode mb_X5_open 18 = .ok (.putfield 22, 3) := by decide +kernel
theorem dd_X5_open_21 : decode mb_X5_open 21 = .ok (.iconst 0, 1) := by decide +kernel
theorem dd_X5_open_22 : decode mb_X5_open 22 = .ok (.istore 5, 2) := by decide +kernel
theorem dd_X5_open_24 : decode mb_X5_open 24 = .ok (.iload 5, 2) := by decide +kernel
theorem dd_X5_open_26 : decode mb_X5_open 26 = .ok (.aload 4, 2) := by decide +kernel
theorem dd_X5_open_28 : decode mb_X5_open 28 = .ok (.getfield 46, 3) := by decide +kernel
theorem dd_X5_open_31 : decode mb_X5_open 31 = .ok (.if_icmp .ge 62, 3) := by decide +kernel
theorem dd_X5_open_93 : decode mb_X5_open 93 = .ok (.iconst 0, 1) := by decide +kernel
theorem dd_X5_open_94 : decode mb_X5_open 94 = .ok (.istore 5, 2) := by decide +kernel
theorem dd_X5_open_96 : decode mb_X5_open 96 = .ok (.iload 5, 2) := by decide +kernel
theorem dd_X5_open_98 : decode mb_X5_open 98 = .ok (.aload_n 1, 1) := by decide +kernel
theorem dd_X5_open_99 : decode mb_X5_open 99 = .ok (.getfield 59, 3) := by decide +kernel
theorem dd_X5_open_102 : decode mb_X5_open 102 = .ok (.getfield 63, 3) := by decide +kernel
theorem dd_X5_open_105 : decode mb_X5_open 105 = .ok (.if_icmp .ge 34, 3) := by decide +kernel
theorem dd_X5_open_139 : decode mb_X5_open 139 = .ok (.return_, 1) := by decide +kernel
theorem dd_X5_playHour_0 : decode mb_X5_playHour 0 = .ok (.iload_n 2, 1) := by decide +kernel
theorem dd_X5_playHour_1 : decode mb_X5_playHour 1 = .ok (.aload_n 0, 1) := by decide +kernel
theorem dd_X5_playHour_2 : decode mb_X5_playHour 2 = .ok (.getfield 9, 3) := by decide +kernel
theorem dd_X5_playHour_5 : decode mb_X5_playHour 5 = .ok (.aload_n 0, 1) := by decide +kernel
theorem dd_X5_playHour_6 : decode mb_X5_playHour 6 = .ok (.getfield 15, 3) := by decide +kernel
theorem dd_X5_playHour_9 : decode mb_X5_playHour 9 = .ok (.invokestatic 70, 3) := by decide +kernel
theorem dd_X5_playHour_12 : decode mb_X5_playHour 12 = .ok (.istore_n 3, 1) := by decide +kernel
theorem dd_X5_playHour_13 : decode mb_X5_playHour 13 = .ok (.iconst 0, 1) := by decide +kernel
theorem dd_X5_playHour_14 : decode mb_X5_playHour 14 = .ok (.istore 4, 2) := by decide +kernel
theorem dd_X5_playHour_16 : decode mb_X5_playHour 16 = .ok (.iconst 0, 1) := by decide +kernel
theorem dd_X5_playHour_17 : decode mb_X5_playHour 17 = .ok (.istore 5, 2) := by decide +kernel
theorem dd_X5_playHour_19 : decode mb_X5_playHour 19 = .ok (.iload 5, 2) := by decide +kernel
theorem dd_X5_playHour_21 : decode mb_X5_playHour 21 = .ok (.aload_n 1, 1) := by decide +kernel
theorem dd_X5_playHour_22 : decode mb_X5_playHour 22 = .ok (.getfield 59, 3) := by decide +kernel
theorem dd_X5_playHour_25 : decode mb_X5_playHour 25 = .ok (.getfield 63, 3) := by decide +kernel
theorem dd_X5_playHour_28 : decode mb_X5_playHour 28 = .ok (.if_icmp .ge 93, 3) := by decide +kernel
theorem dd_X5_playHour_121 : decode mb_X5_playHour 121 = .ok (.iload 4, 2) := by decide +kernel
theorem dd_X5_playHour_123 : decode mb_X5_playHour 123 = .ok (.ireturn, 1) := by decide +kernel
theorem dd_X5_settle_0 : decode mb_X5_settle 0 = .ok (.aload_n 1, 1) := by decide +kernel
theorem dd_X5_settle_1 : decode mb_X5_settle 1 = .ok (.getfield 40, 3) := by decide +kernel
theorem dd_X5_settle_4 : decode mb_X5_settle 4 = .ok (.astore_n 2, 1) := by decide +kernel
theorem dd_X5_settle_5 : decode mb_X5_settle 5 = .ok (.aload_n 1, 1) := by decide +kernel
theorem dd_X5_settle_6 : decode mb_X5_settle 6 = .ok (.getfield 59, 3) := by decide +kernel
theorem dd_X5_settle_9 : decode mb_X5_settle 9 = .ok (.astore_n 3, 1) := by decide +kernel
theorem dd_X5_settle_10 : decode mb_X5_settle 10 = .ok (.iconst 0, 1) := by decide +kernel
theorem dd_X5_settle_11 : decode mb_X5_settle 11 = .ok (.istore 4, 2) := by decide +kernel
theorem dd_X5_settle_13 : decode mb_X5_settle 13 = .ok (.iload 4, 2) := by decide +kernel
theorem dd_X5_settle_15 : decode mb_X5_settle 15 = .ok (.aload_n 2, 1) := by decide +kernel
theorem dd_X5_settle_16 : decode mb_X5_settle 16 = .ok (.getfield 46, 3) := by decide +kernel
theorem dd_X5_settle_19 : decode mb_X5_settle 19 = .ok (.if_icmp .ge 78, 3) := by decide +kernel
theorem dd_X5_settle_97 : decode mb_X5_settle 97 = .ok (.return_, 1) := by decide +kernel
theorem dd_X5_stage_0 : decode mb_X5_stage 0 = .ok (.iload_n 0, 1) := by decide +kernel
theorem dd_X5_stage_1 : decode mb_X5_stage 1 = .ok (.iload_n 2, 1) := by decide +kernel
theorem dd_X5_stage_2 : decode mb_X5_stage 2 = .ok (.if_icmp .lt 5, 3) := by decide +kernel
theorem dd_X5_stage_5 : decode mb_X5_stage 5 = .ok (.iconst 2, 1) := by decide +kernel
theorem dd_X5_stage_6 : decode mb_X5_stage 6 = .ok (.ireturn, 1) := by decide +kernel
theorem dd_X5_stage_7 : decode mb_X5_stage 7 = .ok (.iload_n 0, 1) := by decide +kernel
theorem dd_X5_stage_8 : decode mb_X5_stage 8 = .ok (.iload_n 1, 1) := by decide +kernel
theorem dd_X5_stage_9 : decode mb_X5_stage 9 = .ok (.if_icmp .lt 7, 3) := by decide +kernel
theorem dd_X5_stage_12 : decode mb_X5_stage 12 = .ok (.iconst 1, 1) := by decide +kernel
theorem dd_X5_stage_13 : decode mb_X5_stage 13 = .ok (.goto 4, 3) := by decide +kernel
theorem dd_X5_stage_16 : decode mb_X5_stage 16 = .ok (.iconst 0, 1) := by decide +kernel
theorem dd_X5_stage_17 : decode mb_X5_stage 17 = .ok (.ireturn, 1) := by decide +kernel
theorem dd_X5_wholeDay_0 : decode mb_X5_wholeDay 0 = .ok (.aload_n 0, 1) := by decide +kernel
theorem dd_X5_wholeDay_1 : decode mb_X5_wholeDay 1 = .ok (.aload_n 1, 1) := by decide +kernel
theorem dd_X5_wholeDay_2 : decode mb_X5_wholeDay 2 = .ok (.iload_n 2, 1) := by decide +kernel
theorem dd_X5_wholeDay_3 : decode mb_X5_wholeDay 3 = .ok (.iload_n 3, 1) := by decide +kernel
theorem dd_X5_wholeDay_4 : decode mb_X5_wholeDay 4 = .ok (.invokevirtual 104, 3) := by decide +kernel
theorem dd_X5_wholeDay_7 : decode mb_X5_wholeDay 7 = .ok (.iconst 0, 1) := by decide +kernel
theorem dd_X5_wholeDay_8 : decode mb_X5_wholeDay 8 = .ok (.istore 4, 2) := by decide +kernel
theorem dd_X5_wholeDay_10 : decode mb_X5_wholeDay 10 = .ok (.iconst 0, 1) := by decide +kernel
theorem dd_X5_wholeDay_11 : decode mb_X5_wholeDay 11 = .ok (.istore 5, 2) := by decide +kernel
theorem dd_X5_wholeDay_13 : decode mb_X5_wholeDay 13 = .ok (.iload 5, 2) := by decide +kernel
theorem dd_X5_wholeDay_15 : decode mb_X5_wholeDay 15 = .ok (.bipush 12, 2) := by decide +kernel
theorem dd_X5_wholeDay_17 : decode mb_X5_wholeDay 17 = .ok (.if_icmp .ge 21, 3) := by decide +kernel
theorem dd_X5_wholeDay_20 : decode mb_X5_wholeDay 20 = .ok (.iload 4, 2) := by decide +kernel
theorem dd_X5_wholeDay_22 : decode mb_X5_wholeDay 22 = .ok (.aload_n 0, 1) := by decide +kernel
theorem dd_X5_wholeDay_23 : decode mb_X5_wholeDay 23 = .ok (.aload_n 1, 1) := by decide +kernel
theorem dd_X5_wholeDay_24 : decode mb_X5_wholeDay 24 = .ok (.iload 5, 2) := by decide +kernel
theorem dd_X5_wholeDay_26 : decode mb_X5_wholeDay 26 = .ok (.invokevirtual 108, 3) := by decide +kernel
theorem dd_X5_wholeDay_29 : decode mb_X5_wholeDay 29 = .ok (.iadd, 1) := by decide +kernel
theorem dd_X5_wholeDay_30 : decode mb_X5_wholeDay 30 = .ok (.istore 4, 2) := by decide +kernel
theorem dd_X5_wholeDay_32 : decode mb_X5_wholeDay 32 = .ok (.iinc 5 1, 3) := by decide +kernel
theorem dd_X5_wholeDay_35 : decode mb_X5_wholeDay 35 = .ok (.goto (-22), 3) := by decide +kernel
theorem dd_X5_wholeDay_38 : decode mb_X5_wholeDay 38 = .ok (.iload 4, 2) := by decide +kernel
theorem dd_X5_wholeDay_40 : decode mb_X5_wholeDay 40 = .ok (.ireturn, 1) := by decide +kernel
theorem dd_X6_become_0 : decode mb_X6_become 0 = .ok (.aload_n 1, 1) := by decide +kernel
theorem dd_X6_become_1 : decode mb_X6_become 1 = .ok (.getfield 9, 3) := by decide +kernel
theorem dd_X6_become_4 : decode mb_X6_become 4 = .ok (.iconst 0, 1) := by decide +kernel
theorem dd_X6_become_5 : decode mb_X6_become 5 = .ok (.aload_n 0, 1) := by decide +kernel
theorem dd_X6_become_6 : decode mb_X6_become 6 = .ok (.getfield 9, 3) := by decide +kernel
theorem dd_X6_become_9 : decode mb_X6_become 9 = .ok (.iconst 0, 1) := by decide +kernel
theorem dd_X6_become_10 : decode mb_X6_become 10 = .ok (.bipush 10, 2) := by decide +kernel
theorem dd_X6_become_12 : decode mb_X6_become 12 = .ok (.invokestatic 61, 3) := by decide +kernel
theorem dd_X6_become_15 : decode mb_X6_become 15 = .ok (.aload_n 1, 1) := by decide +kernel
theorem dd_X6_become_16 : decode mb_X6_become 16 = .ok (.getfield 15, 3) := by decide +kernel
theorem dd_X6_become_19 : decode mb_X6_become 19 = .ok (.iconst 0, 1) := by decide +kernel
theorem dd_X6_become_20 : decode mb_X6_become 20 = .ok (.aload_n 0, 1) := by decide +kernel
theorem dd_X6_become_21 : decode mb_X6_become 21 = .ok (.getfield 15, 3) := by decide +kernel
theorem dd_X6_become_24 : decode mb_X6_become 24 = .ok (.iconst 0, 1) := by decide +kernel
theorem dd_X6_become_25 : decode mb_X6_become 25 = .ok (.bipush 10, 2) := by decide +kernel
theorem dd_X6_become_27 : decode mb_X6_become 27 = .ok (.invokestatic 61, 3) := by decide +kernel
theorem dd_X6_become_30 : decode mb_X6_become 30 = .ok (.aload_n 1, 1) := by decide +kernel
theorem dd_X6_become_31 : decode mb_X6_become 31 = .ok (.getfield 22, 3) := by decide +kernel
theorem dd_X6_become_34 : decode mb_X6_become 34 = .ok (.iconst 0, 1) := by decide +kernel
theorem dd_X6_become_35 : decode mb_X6_become 35 = .ok (.aload_n 0, 1) := by decide +kernel
theorem dd_X6_become_36 : decode mb_X6_become 36 = .ok (.getfield 22, 3) := by decide +kernel
theorem dd_X6_become_39 : decode mb_X6_become 39 = .ok (.iconst 0, 1) := by decide +kernel
theorem dd_X6_become_40 : decode mb_X6_become 40 = .ok (.bipush 16, 2) := by decide +kernel
theorem dd_X6_become_42 : decode mb_X6_become 42 = .ok (.invokestatic 61, 3) := by decide +kernel
theorem dd_X6_become_45 : decode mb_X6_become 45 = .ok (.aload_n 0, 1) := by decide +kernel
theorem dd_X6_become_46 : decode mb_X6_become 46 = .ok (.aload_n 1, 1) := by decide +kernel
theorem dd_X6_become_47 : decode mb_X6_become 47 = .ok (.getfield 18, 3) := by decide +kernel
theorem dd_X6_become_50 : decode mb_X6_become 50 = .ok (.putfield 18, 3) := by decide +kernel
theorem dd_X6_become_53 : decode mb_X6_become 53 = .ok (.return_, 1) := by decide +kernel
theorem dd_X7_at_0 : decode mb_X7_at 0 = .ok (.aload_n 0, 1) := by decide +kernel
theorem dd_X7_at_1 : decode mb_X7_at 1 = .ok (.invokevirtual 32, 3) := by decide +kernel
theorem dd_X7_at_4 : decode mb_X7_at 4 = .ok (.ifCond .eq 26, 3) := by decide +kernel
theorem dd_X7_at_30 : decode mb_X7_at 30 = .ok (.lconst 0, 1) := by decide +kernel
theorem dd_X7_at_31 : decode mb_X7_at 31 = .ok (.lreturn, 1) := by decide +kernel
theorem dd_X7_hasRow_0 : decode mb_X7_hasRow 0 = .ok (.aload_n 0, 1) := by decide +kernel
theorem dd_X7_hasRow_1 : decode mb_X7_hasRow 1 = .ok (.getfield 15, 3) := by decide +kernel
theorem dd_X7_hasRow_4 : decode mb_X7_hasRow 4 = .ok (.iconst 0, 1) := by decide +kernel
theorem dd_X7_hasRow_5 : decode mb_X7_hasRow 5 = .ok (.iconst 4, 1) := by decide +kernel
theorem dd_X7_hasRow_6 : decode mb_X7_hasRow 6 = .ok (.invokestatic 22, 3) := by decide +kernel
theorem dd_X7_hasRow_9 : decode mb_X7_hasRow 9 = .ok (.ireturn, 1) := by decide +kernel
theorem dd_X7_hasThing_0 : decode mb_X7_hasThing 0 = .ok (.aload_n 0, 1) := by decide +kernel
theorem dd_X7_hasThing_1 : decode mb_X7_hasThing 1 = .ok (.getfield 15, 3) := by decide +kernel
theorem dd_X7_hasThing_4 : decode mb_X7_hasThing 4 = .ok (.bipush 10, 2) := by decide +kernel
theorem dd_X7_hasThing_6 : decode mb_X7_hasThing 6 = .ok (.if_icmp .lt 7, 3) := by decide +kernel
theorem dd_X7_hasThing_13 : decode mb_X7_hasThing 13 = .ok (.iconst 0, 1) := by decide +kernel
theorem dd_X7_hasThing_14 : decode mb_X7_hasThing 14 = .ok (.ireturn, 1) := by decide +kernel
theorem dd_X7_isEmpty_0 : decode mb_X7_isEmpty 0 = .ok (.aload_n 0, 1) := by decide +kernel
theorem dd_X7_isEmpty_1 : decode mb_X7_isEmpty 1 = .ok (.getfield 15, 3) := by decide +kernel
theorem dd_X7_isEmpty_4 : decode mb_X7_isEmpty 4 = .ok (.iconst (-1), 1) := by decide +kernel
theorem dd_X7_isEmpty_5 : decode mb_X7_isEmpty 5 = .ok (.if_icmp .ne 7, 3) := by decide +kernel
theorem dd_X7_isEmpty_8 : decode mb_X7_isEmpty 8 = .ok (.iconst 1, 1) := by decide +kernel
theorem dd_X7_isEmpty_9 : decode mb_X7_isEmpty 9 = .ok (.goto 4, 3) := by decide +kernel
theorem dd_X7_isEmpty_13 : decode mb_X7_isEmpty 13 = .ok (.ireturn, 1) := by decide +kernel
theorem dd_X7_takeRow_0 : decode mb_X7_takeRow 0 = .ok (.aload_n 0, 1) := by decide +kernel
theorem dd_X7_takeRow_1 : decode mb_X7_takeRow 1 = .ok (.iload_n 1, 1) := by decide +kernel
theorem dd_X7_takeRow_2 : decode mb_X7_takeRow 2 = .ok (.putfield 15, 3) := by decide +kernel
theorem dd_X7_takeRow_5 : decode mb_X7_takeRow 5 = .ok (.aload_n 0, 1) := by decide +kernel
theorem dd_X7_takeRow_6 : decode mb_X7_takeRow 6 = .ok (.iload_n 2, 1) := by decide +kernel
theorem dd_X7_takeRow_7 : decode mb_X7_takeRow 7 = .ok (.putfield 19, 3) := by decide +kernel
theorem dd_X7_takeRow_10 : decode mb_X7_takeRow 10 = .ok (.aload_n 0, 1) := by decide +kernel
theorem dd_X7_takeRow_11 : decode mb_X7_takeRow 11 = .ok (.getfield 9, 3) := by decide +kernel
theorem dd_X7_takeRow_14 : decode mb_X7_takeRow 14 = .ok (.lconst 0, 1) := by decide +kernel
theorem dd_X7_takeRow_15 : decode mb_X7_takeRow 15 = .ok (.invokestatic 26, 3) := by decide +kernel
theorem dd_X7_takeRow_18 : decode mb_X7_takeRow 18 = .ok (.return_, 1) := by decide +kernel
theorem dd_X8_add_0 : decode mb_X8_add 0 = .ok (.aload_n 0, 1) := by decide +kernel
theorem dd_X8_add_1 : decode mb_X8_add 1 = .ok (.getfield 9, 3) := by decide +kernel
theorem dd_X8_add_4 : decode mb_X8_add 4 = .ok (.aload_n 0, 1) := by decide +kernel
theorem dd_X8_add_5 : decode mb_X8_add 5 = .ok (.getfield 24, 3) := by decide +kernel
theorem dd_X8_add_8 : decode mb_X8_add 8 = .ok (.iload_n 1, 1) := by decide +kernel
theorem dd_X8_add_9 : decode mb_X8_add 9 = .ok (.iastore, 1) := by decide +kernel
theorem dd_X8_add_10 : decode mb_X8_add 10 = .ok (.aload_n 0, 1) := by decide +kernel
theorem dd_X8_add_11 : decode mb_X8_add 11 = .ok (.getfield 15, 3) := by decide +kernel
theorem dd_X8_add_14 : decode mb_X8_add 14 = .ok (.aload_n 0, 1) := by decide +kernel
theorem dd_X8_add_15 : decode mb_X8_add 15 = .ok (.getfield 24, 3) := by decide +kernel
theorem dd_X8_add_18 : decode mb_X8_add 18 = .ok (.iload_n 2, 1) := by decide +kernel
theorem dd_X8_add_19 : decode mb_X8_add 19 = .ok (.iastore, 1) := by decide +kernel
theorem dd_X8_add_20 : decode mb_X8_add 20 = .ok (.aload_n 0, 1) := by decide +kernel
theorem dd_X8_add_21 : decode mb_X8_add 21 = .ok (.getfield 18, 3) := by decide +kernel
theorem dd_X8_add_24 : decode mb_X8_add 24 = .ok (.aload_n 0, 1) := by decide +kernel
theorem dd_X8_add_25 : decode mb_X8_add 25 = .ok (.getfield 24, 3) := by decide +kernel
theorem dd_X8_add_28 : decode mb_X8_add 28 = .ok (.iload_n 3, 1) := by decide +kernel
theorem dd_X8_add_29 : decode mb_X8_add 29 = .ok (.iastore, 1) := by decide +kernel
theorem dd_X8_add_30 : decode mb_X8_add 30 = .ok (.aload_n 0, 1) := by decide +kernel
theorem dd_X8_add_31 : decode mb_X8_add 31 = .ok (.getfield 21, 3) := by decide +kernel
theorem dd_X8_add_34 : decode mb_X8_add 34 = .ok (.aload_n 0, 1) := by decide +kernel
theorem dd_X8_add_35 : decode mb_X8_add 35 = .ok (.getfield 24, 3) := by decide +kernel
theorem dd_X8_add_38 : decode mb_X8_add 38 = .ok (.iload 4, 2) := by decide +kernel
theorem dd_X8_add_40 : decode mb_X8_add 40 = .ok (.iastore, 1) := by decide +kernel
theorem dd_X8_add_41 : decode mb_X8_add 41 = .ok (.aload_n 0, 1) := by decide +kernel
theorem dd_X8_add_42 : decode mb_X8_add 42 = .ok (.dup, 1) := by decide +kernel
theorem dd_X8_add_43 : decode mb_X8_add 43 = .ok (.getfield 24, 3) := by decide +kernel
theorem dd_X8_add_46 : decode mb_X8_add 46 = .ok (.iconst 1, 1) := by decide +kernel
theorem dd_X8_add_47 : decode mb_X8_add 47 = .ok (.iadd, 1) := by decide +kernel
theorem dd_X8_add_48 : decode mb_X8_add 48 = .ok (.putfield 24, 3) := by decide +kernel
theorem dd_X8_add_51 : decode mb_X8_add 51 = .ok (.aload_n 0, 1) := by decide +kernel
theorem dd_X8_add_52 : decode mb_X8_add 52 = .ok (.getfield 24, 3) := by decide +kernel
theorem dd_X8_add_55 : decode mb_X8_add 55 = .ok (.iconst 1, 1) := by decide +kernel
theorem dd_X8_add_56 : decode mb_X8_add 56 = .ok (.isub, 1) := by decide +kernel
theorem dd_X8_add_57 : decode mb_X8_add 57 = .ok (.ireturn, 1) := by decide +kernel
theorem dd_X8_become_0 : decode mb_X8_become 0 = .ok (.aload_n 1, 1) := by decide +kernel
theorem dd_X8_become_1 : decode mb_X8_become 1 = .ok (.getfield 9, 3) := by decide +kernel
theorem dd_X8_become_4 : decode mb_X8_become 4 = .ok (.iconst 0, 1) := by decide +kernel
theorem dd_X8_become_5 : decode mb_X8_become 5 = .ok (.aload_n 0, 1) := by decide +kernel
theorem dd_X8_become_6 : decode mb_X8_become 6 = .ok (.getfield 9, 3) := by decide +kernel
theorem dd_X8_become_9 : decode mb_X8_become 9 = .ok (.iconst 0, 1) := by decide +kernel
theorem dd_X8_become_10 : decode mb_X8_become 10 = .ok (.bipush 20, 2) := by decide +kernel
theorem dd_X8_become_12 : decode mb_X8_become 12 = .ok (.invokestatic 65, 3) := by decide +kernel
theorem dd_X8_become_15 : decode mb_X8_become 15 = .ok (.aload_n 1, 1) := by decide +kernel
theorem dd_X8_become_16 : decode mb_X8_become 16 = .ok (.getfield 15, 3) := by decide +kernel
theorem dd_X8_become_19 : decode mb_X8_become 19 = .ok (.iconst 0, 1) := by decide +kernel
theorem dd_X8_become_20 : decode mb_X8_become 20 = .ok (.aload_n 0, 1) := by decide +kernel
theorem dd_X8_become_21 : decode mb_X8_become 21 = .ok (.getfield 15, 3) := by decide +kernel
theorem dd_X8_become_24 : decode mb_X8_become 24 = .ok (.iconst 0, 1) := by decide +kernel
theorem dd_X8_become_25 : decode mb_X8_become 25 = .ok (.bipush 20, 2) := by decide +kernel
theorem dd_X8_become_27 : decode mb_X8_become 27 = .ok (.invokestatic 65, 3) := by decide +kernel
theorem dd_X8_become_30 : decode mb_X8_become 30 = .ok (.aload_n 1, 1) := by decide +kernel
theorem dd_X8_become_31 : decode mb_X8_become 31 = .ok (.getfield 18, 3) := by decide +kernel
theorem dd_X8_become_34 : decode mb_X8_become 34 = .ok (.iconst 0, 1) := by decide +kernel
theorem dd_X8_become_35 : decode mb_X8_become 35 = .ok (.aload_n 0, 1) := by decide +kernel
theorem dd_X8_become_36 : decode mb_X8_become 36 = .ok (.getfield 18, 3) := by decide +kernel
theorem dd_X8_become_39 : decode mb_X8_become 39 = .ok (.iconst 0, 1) := by decide +kernel
theorem dd_X8_become_40 : decode mb_X8_become 40 = .ok (.bipush 20, 2) := by decide +kernel
theorem dd_X8_become_42 : decode mb_X8_become 42 = .ok (.invokestatic 65, 3) := by decide +kernel
theorem dd_X8_become_45 : decode mb_X8_become 45 = .ok (.aload_n 1, 1) := by decide +kernel
theorem dd_X8_become_46 : decode mb_X8_become 46 = .ok (.getfield 21, 3) := by decide +kernel
theorem dd_X8_become_49 : decode mb_X8_become 49 = .ok (.iconst 0, 1) := by decide +kernel
theorem dd_X8_become_50 : decode mb_X8_become 50 = .ok (.aload_n 0, 1) := by decide +kernel
theorem dd_X8_become_51 : decode mb_X8_become 51 = .ok (.getfield 21, 3) := by decide +kernel
theorem dd_X8_become_54 : decode mb_X8_become 54 = .ok (.iconst 0, 1) := by decide +kernel
theorem dd_X8_become_55 : decode mb_X8_become 55 = .ok (.bipush 20, 2) := by decide +kernel
theorem dd_X8_become_57 : decode mb_X8_become 57 = .ok (.invokestatic 65, 3) := by decide +kernel
theorem dd_X8_become_60 : decode mb_X8_become 60 = .ok (.aload_n 0, 1) := by decide +kernel
theorem dd_X8_become_61 : decode mb_X8_become 61 = .ok (.aload_n 1, 1) := by decide +kernel
theorem dd_X8_become_62 : decode mb_X8_become 62 = .ok (.getfield 24, 3) := by decide +kernel
theorem dd_X8_become_65 : decode mb_X8_become 65 = .ok (.putfield 24, 3) := by decide +kernel
theorem dd_X8_become_68 : decode mb_X8_become 68 = .ok (.return_, 1) := by decide +kernel
theorem dd_X8_fewestVases_0 : decode mb_X8_fewestVases 0 = .ok (.aload_n 0, 1) := by decide +kernel
theorem dd_X8_fewestVases_1 : decode mb_X8_fewestVases 1 = .ok (.getfield 28, 3) := by decide +kernel
theorem dd_X8_fewestVases_4 : decode mb_X8_fewestVases 4 = .ok (.iconst (-1), 1) := by decide +kernel
theorem dd_X8_fewestVases_5 : decode mb_X8_fewestVases 5 = .ok (.invokestatic 41, 3) := by decide +kernel
theorem dd_X8_fewestVases_8 : decode mb_X8_fewestVases 8 = .ok (.iconst 0, 1) := by decide +kernel
theorem dd_X8_fewestVases_9 : decode mb_X8_fewestVases 9 = .ok (.istore_n 1, 1) := by decide +kernel
theorem dd_X8_fewestVases_10 : decode mb_X8_fewestVases 10 = .ok (.iconst 0, 1) := by decide +kernel
theorem dd_X8_fewestVases_11 : decode mb_X8_fewestVases 11 = .ok (.istore_n 2, 1) := by decide +kernel
theorem dd_X8_fewestVases_12 : decode mb_X8_fewestVases 12 = .ok (.iload_n 2, 1) := by decide +kernel
theorem dd_X8_fewestVases_13 : decode mb_X8_fewestVases 13 = .ok (.aload_n 0, 1) := by decide +kernel
theorem dd_X8_fewestVases_14 : decode mb_X8_fewestVases 14 = .ok (.getfield 24, 3) := by decide +kernel
theorem dd_X8_fewestVases_17 : decode mb_X8_fewestVases 17 = .ok (.if_icmp .ge 29, 3) := by decide +kernel
theorem dd_X8_fewestVases_46 : decode mb_X8_fewestVases 46 = .ok (.aload_n 0, 1) := by decide +kernel
theorem dd_X8_fewestVases_47 : decode mb_X8_fewestVases 47 = .ok (.getfield 24, 3) := by decide +kernel
theorem dd_X8_fewestVases_50 : decode mb_X8_fewestVases 50 = .ok (.iload_n 1, 1) := by decide +kernel
theorem dd_X8_fewestVases_51 : decode mb_X8_fewestVases 51 = .ok (.isub, 1) := by decide +kernel
theorem dd_X8_fewestVases_52 : decode mb_X8_fewestVases 52 = .ok (.ireturn, 1) := by decide +kernel
theorem dd_X8_has_0 : decode mb_X8_has 0 = .ok (.iload_n 1, 1) := by decide +kernel
theorem dd_X8_has_1 : decode mb_X8_has 1 = .ok (.iconst 0, 1) := by decide +kernel
theorem dd_X8_has_2 : decode mb_X8_has 2 = .ok (.aload_n 0, 1) := by decide +kernel
theorem dd_X8_has_3 : decode mb_X8_has 3 = .ok (.getfield 24, 3) := by decide +kernel
theorem dd_X8_has_6 : decode mb_X8_has 6 = .ok (.iconst 1, 1) := by decide +kernel
theorem dd_X8_has_7 : decode mb_X8_has 7 = .ok (.isub, 1) := by decide +kernel
theorem dd_X8_has_8 : decode mb_X8_has 8 = .ok (.invokestatic 37, 3) := by decide +kernel
theorem dd_X8_has_11 : decode mb_X8_has 11 = .ok (.ireturn, 1) := by decide +kernel
theorem dd_X8_longestRow_0 : decode mb_X8_longestRow 0 = .ok (.iconst 0, 1) := by decide +kernel
theorem dd_X8_longestRow_1 : decode mb_X8_longestRow 1 = .ok (.istore_n 1, 1) := by decide +kernel
theorem dd_X8_longestRow_2 : decode mb_X8_longestRow 2 = .ok (.iconst 0, 1) := by decide +kernel
theorem dd_X8_longestRow_3 : decode mb_X8_longestRow 3 = .ok (.istore_n 2, 1) := by decide +kernel
theorem dd_X8_longestRow_4 : decode mb_X8_longestRow 4 = .ok (.iload_n 2, 1) := by decide +kernel
theorem dd_X8_longestRow_5 : decode mb_X8_longestRow 5 = .ok (.bipush 99, 2) := by decide +kernel
theorem dd_X8_longestRow_7 : decode mb_X8_longestRow 7 = .ok (.if_icmp .gt 59, 3) := by decide +kernel
theorem dd_X8_longestRow_10 : decode mb_X8_longestRow 10 = .ok (.iconst 0, 1) := by decide +kernel
theorem dd_X8_longestRow_11 : decode mb_X8_longestRow 11 = .ok (.istore_n 3, 1) := by decide +kernel
theorem dd_X8_longestRow_12 : decode mb_X8_longestRow 12 = .ok (.iload_n 3, 1) := by decide +kernel
theorem dd_X8_longestRow_13 : decode mb_X8_longestRow 13 = .ok (.aload_n 0, 1) := by decide +kernel
theorem dd_X8_longestRow_14 : decode mb_X8_longestRow 14 = .ok (.getfield 24, 3) := by decide +kernel
theorem dd_X8_longestRow_17 : decode mb_X8_longestRow 17 = .ok (.if_icmp .ge 43, 3) := by decide +kernel
theorem dd_X8_longestRow_60 : decode mb_X8_longestRow 60 = .ok (.iinc 2 1, 3) := by decide +kernel
theorem dd_X8_longestRow_63 : decode mb_X8_longestRow 63 = .ok (.goto (-59), 3) := by decide +kernel
theorem dd_X8_longestRow_66 : decode mb_X8_longestRow 66 = .ok (.iload_n 1, 1) := by decide +kernel
theorem dd_X8_longestRow_67 : decode mb_X8_longestRow 67 = .ok (.ireturn, 1) := by decide +kernel
theorem dd_X9_append_0 : decode mb_X9_append 0 = .ok (.iload_n 2, 1) := by decide +kernel
theorem dd_X9_append_1 : decode mb_X9_append 1 = .ok (.iconst 1, 1) := by decide +kernel
theorem dd_X9_append_2 : decode mb_X9_append 2 = .ok (.isub, 1) := by decide +kernel
theorem dd_X9_append_3 : decode mb_X9_append 3 = .ok (.istore_n 3, 1) := by decide +kernel
theorem dd_X9_append_4 : decode mb_X9_append 4 = .ok (.iload_n 3, 1) := by decide +kernel
theorem dd_X9_append_5 : decode mb_X9_append 5 = .ok (.ifCond .lt 44, 3) := by decide +kernel
theorem dd_X9_append_8 : decode mb_X9_append 8 = .ok (.aload_n 0, 1) := by decide +kernel
theorem dd_X9_append_9 : decode mb_X9_append 9 = .ok (.getfield 15, 3) := by decide +kernel
theorem dd_X9_append_12 : decode mb_X9_append 12 = .ok (.bipush 120, 2) := by decide +kernel
theorem dd_X9_append_14 : decode mb_X9_append 14 = .ok (.if_icmp .ge 35, 3) := by decide +kernel
theorem dd_X9_append_17 : decode mb_X9_append 17 = .ok (.aload_n 0, 1) := by decide +kernel
theorem dd_X9_append_18 : decode mb_X9_append 18 = .ok (.getfield 9, 3) := by decide +kernel
theorem dd_X9_append_21 : decode mb_X9_append 21 = .ok (.aload_n 0, 1) := by decide +kernel
theorem dd_X9_append_22 : decode mb_X9_append 22 = .ok (.getfield 15, 3) := by decide +kernel
theorem dd_X9_append_25 : decode mb_X9_append 25 = .ok (.iload_n 1, 1) := by decide +kernel
theorem dd_X9_append_26 : decode mb_X9_append 26 = .ok (.bipush 8, 2) := by decide +kernel
theorem dd_X9_append_28 : decode mb_X9_append 28 = .ok (.iload_n 3, 1) := by decide +kernel
theorem dd_X9_append_29 : decode mb_X9_append 29 = .ok (.imul, 1) := by decide +kernel
theorem dd_X9_append_30 : decode mb_X9_append 30 = .ok (.ishr, 1) := by decide +kernel
theorem dd_X9_append_31 : decode mb_X9_append 31 = .ok (.i2b, 1) := by decide +kernel
theorem dd_X9_append_32 : decode mb_X9_append 32 = .ok (.bastore, 1) := by decide +kernel
theorem dd_X9_append_33 : decode mb_X9_append 33 = .ok (.aload_n 0, 1) := by decide +kernel
theorem dd_X9_append_34 : decode mb_X9_append 34 = .ok (.dup, 1) := by decide +kernel
theorem dd_X9_append_35 : decode mb_X9_append 35 = .ok (.getfield 15, 3) := by decide +kernel
theorem dd_X9_append_38 : decode mb_X9_append 38 = .ok (.iconst 1, 1) := by decide +kernel
theorem dd_X9_append_39 : decode mb_X9_append 39 = .ok (.iadd, 1) := by decide +kernel
theorem dd_X9_append_40 : decode mb_X9_append 40 = .ok (.putfield 15, 3) := by decide +kernel
theorem dd_X9_append_43 : decode mb_X9_append 43 = .ok (.iinc 3 (-1), 3) := by decide +kernel
theorem dd_X9_append_46 : decode mb_X9_append 46 = .ok (.goto (-42), 3) := by decide +kernel
theorem dd_X9_append_49 : decode mb_X9_append 49 = .ok (.return_, 1) := by decide +kernel
