abbrev mb_J0_charAt_5068e : ByteArray := prog_17_method_56_code
abbrev my_J0_charAt_5068e : MethodName := ⟨"java/lang/String", "charAt", "(I)C"⟩
theorem md_J0_charAt_5068e : MD my_J0_charAt_5068e 1 := ⟨by decide, by decide, by decide +kernel⟩
abbrev mb_J0_checkIndex_df160 : ByteArray := prog_17_method_155_code
abbrev my_J0_checkIndex_df160 : MethodName := ⟨"java/lang/String", "checkIndex", "(II)V"⟩
theorem md_J0_checkIndex_df160 : MD my_J0_checkIndex_df160 2 := ⟨by decide, by decide, by decide +kernel⟩
abbrev mb_J0_coder_7d493 : ByteArray := prog_17_method_152_code
abbrev my_J0_coder_7d493 : MethodName := ⟨"java/lang/String", "coder", "()B"⟩
theorem md_J0_coder_7d493 : MD my_J0_coder_7d493 0 := ⟨by decide, by decide, by decide +kernel⟩
abbrev mb_J0_isLatin1_aae02 : ByteArray := prog_17_method_154_code
abbrev my_J0_isLatin1_aae02 : MethodName := ⟨"java/lang/String", "isLatin1", "()Z"⟩
theorem md_J0_isLatin1_aae02 : MD my_J0_isLatin1_aae02 0 := ⟨by decide, by decide, by decide +kernel⟩
abbrev mb_J0_length_8abf5 : ByteArray := prog_17_method_54_code
abbrev my_J0_length_8abf5 : MethodName := ⟨"java/lang/String", "length", "()I"⟩
theorem md_J0_length_8abf5 : MD my_J0_length_8abf5 0 := ⟨by decide, by decide, by decide +kernel⟩
abbrev mb_J1_charAt_3b067 : ByteArray := prog_18_method_2_code
abbrev my_J1_charAt_3b067 : MethodName := ⟨"java/lang/StringLatin1", "charAt", "([BI)C"⟩
theorem md_J1_charAt_3b067 : MD my_J1_charAt_3b067 2 := ⟨by decide, by decide, by decide +kernel⟩
abbrev mb_J2_charAt_3b067 : ByteArray := prog_19_method_83_code
abbrev my_J2_charAt_3b067 : MethodName := ⟨"java/lang/StringUTF16", "charAt", "([BI)C"⟩
theorem md_J2_charAt_3b067 : MD my_J2_charAt_3b067 2 := ⟨by decide, by decide, by decide +kernel⟩
abbrev mb_J2_checkIndex_2214a : ByteArray := prog_19_method_91_code
abbrev my_J2_checkIndex_2214a : MethodName := ⟨"java/lang/StringUTF16", "checkIndex", "(I[B)V"⟩
theorem md_J2_checkIndex_2214a : MD my_J2_checkIndex_2214a 2 := ⟨by decide, by decide, by decide +kernel⟩
abbrev mb_J2_getChar_3b067 : ByteArray := prog_19_method_5_code
abbrev my_J2_getChar_3b067 : MethodName := ⟨"java/lang/StringUTF16", "getChar", "([BI)C"⟩
theorem md_J2_getChar_3b067 : MD my_J2_getChar_3b067 2 := ⟨by decide, by decide, by decide +kernel⟩
abbrev mb_J2_length_9d52b : ByteArray := prog_19_method_6_code
abbrev my_J2_length_9d52b : MethodName := ⟨"java/lang/StringUTF16", "length", "([B)I"⟩
theorem md_J2_length_9d52b : MD my_J2_length_9d52b 1 := ⟨by decide, by decide, by decide +kernel⟩
abbrev mb_J3_checkIndex_8e157 : ByteArray := prog_22_method_11_code
abbrev my_J3_checkIndex_8e157 : MethodName := ⟨"jdk/internal/util/Preconditions", "checkIndex", "(IILjava/util/function/BiFunction;)I"⟩
theorem md_J3_checkIndex_8e157 : MD my_J3_checkIndex_8e157 3 := ⟨by decide, by decide, by decide +kernel⟩
abbrev mb_J6_bitCount_0f7a4 : ByteArray := prog_15_method_49_code
abbrev my_J6_bitCount_0f7a4 : MethodName := ⟨"java/lang/Integer", "bitCount", "(I)I"⟩
theorem md_J6_bitCount_0f7a4 : MD my_J6_bitCount_0f7a4 1 := ⟨by decide, by decide, by decide +kernel⟩
abbrev mb_J7_fill_53178 : ByteArray := prog_21_method_103_code
abbrev my_J7_fill_53178 : MethodName := ⟨"java/util/Arrays", "fill", "([II)V"⟩
theorem md_J7_fill_53178 : MD my_J7_fill_53178 2 := ⟨by decide, by decide, by decide +kernel⟩
abbrev mb_J7_fill_d0a16 : ByteArray := prog_21_method_101_code
abbrev my_J7_fill_d0a16 : MethodName := ⟨"java/util/Arrays", "fill", "([JJ)V"⟩
theorem md_J7_fill_d0a16 : MD my_J7_fill_d0a16 2 := ⟨by decide, by decide, by decide +kernel⟩
abbrev mb_J9_max_7cf53 : ByteArray := prog_16_method_65_code
abbrev my_J9_max_7cf53 : MethodName := ⟨"java/lang/Math", "max", "(II)I"⟩
theorem md_J9_max_7cf53 : MD my_J9_max_7cf53 2 := ⟨by decide, by decide, by decide +kernel⟩
abbrev mb_J9_min_7cf53 : ByteArray := prog_16_method_69_code
abbrev my_J9_min_7cf53 : MethodName := ⟨"java/lang/Math", "min", "(II)I"⟩
theorem md_J9_min_7cf53 : MD my_J9_min_7cf53 2 := ⟨by decide, by decide, by decide +kernel⟩
abbrev mb_X0_add : ByteArray := prog_2_method_3_code
abbrev my_X0_add : MethodName := ⟨"WhiteElephants$Buyers", "add", "(IIII)I"⟩
theorem md_X0_add : MD my_X0_add 4 := ⟨by decide, by decide, by decide +kernel⟩
abbrev mb_X0_become : ByteArray := prog_2_method_4_code
abbrev my_X0_become : MethodName := ⟨"WhiteElephants$Buyers", "become", "(LWhiteElephants$Buyers;)V"⟩
theorem md_X0_become : MD my_X0_become 1 := ⟨by decide, by decide, by decide +kernel⟩
abbrev mb_X0_has : ByteArray := prog_2_method_2_code
abbrev my_X0_has : MethodName := ⟨"WhiteElephants$Buyers", "has", "(I)Z"⟩
theorem md_X0_has : MD my_X0_has 1 := ⟨by decide, by decide, by decide +kernel⟩
abbrev mb_X0_init : ByteArray := prog_2_method_1_code
abbrev my_X0_init : MethodName := ⟨"WhiteElephants$Buyers", "<init>", "()V"⟩
theorem md_X0_init : MD my_X0_init 0 := ⟨by decide, by decide, by decide +kernel⟩
abbrev mb_X10_add : ByteArray := prog_12_method_3_code
abbrev my_X10_add : MethodName := ⟨"WhiteElephants$Things", "add", "(III)I"⟩
theorem md_X10_add : MD my_X10_add 3 := ⟨by decide, by decide, by decide +kernel⟩
abbrev mb_X10_asVase : ByteArray := prog_12_method_10_code
abbrev my_X10_asVase : MethodName := ⟨"WhiteElephants$Things", "asVase", "(II)I"⟩
theorem md_X10_asVase : MD my_X10_asVase 2 := ⟨by decide, by decide, by decide +kernel⟩
abbrev mb_X10_become : ByteArray := prog_12_method_17_code
abbrev my_X10_become : MethodName := ⟨"WhiteElephants$Things", "become", "(LWhiteElephants$Things;)V"⟩
theorem md_X10_become : MD my_X10_become 1 := ⟨by decide, by decide, by decide +kernel⟩
abbrev mb_X10_chinaWorth : ByteArray := prog_12_method_9_code
abbrev my_X10_chinaWorth : MethodName := ⟨"WhiteElephants$Things", "chinaWorth", "(I)I"⟩
theorem md_X10_chinaWorth : MD my_X10_chinaWorth 1 := ⟨by decide, by decide, by decide +kernel⟩
abbrev mb_X10_countLeft : ByteArray := prog_12_method_13_code
abbrev my_X10_countLeft : MethodName := ⟨"WhiteElephants$Things", "countLeft", "()I"⟩
theorem md_X10_countLeft : MD my_X10_countLeft 0 := ⟨by decide, by decide, by decide +kernel⟩
abbrev mb_X10_dearestUnshared : ByteArray := prog_12_method_16_code
abbrev my_X10_dearestUnshared : MethodName := ⟨"WhiteElephants$Things", "dearestUnshared", "(I)I"⟩
theorem md_X10_dearestUnshared : MD my_X10_dearestUnshared 1 := ⟨by decide, by decide, by decide +kernel⟩
abbrev mb_X10_has : ByteArray := prog_12_method_2_code
abbrev my_X10_has : MethodName := ⟨"WhiteElephants$Things", "has", "(I)Z"⟩
theorem md_X10_has : MD my_X10_has 1 := ⟨by decide, by decide, by decide +kernel⟩
abbrev mb_X10_init : ByteArray := prog_12_method_1_code
abbrev my_X10_init : MethodName := ⟨"WhiteElephants$Things", "<init>", "()V"⟩
theorem md_X10_init : MD my_X10_init 0 := ⟨by decide, by decide, by decide +kernel⟩
abbrev mb_X10_isOfKinds : ByteArray := prog_12_method_6_code
abbrev my_X10_isOfKinds : MethodName := ⟨"WhiteElephants$Things", "isOfKinds", "(II)Z"⟩
theorem md_X10_isOfKinds : MD my_X10_isOfKinds 2 := ⟨by decide, by decide, by decide +kernel⟩
abbrev mb_X10_isOfOrUnder : ByteArray := prog_12_method_7_code
abbrev my_X10_isOfOrUnder : MethodName := ⟨"WhiteElephants$Things", "isOfOrUnder", "(II)Z"⟩
theorem md_X10_isOfOrUnder : MD my_X10_isOfOrUnder 2 := ⟨by decide, by decide, by decide +kernel⟩
abbrev mb_X10_isOffered : ByteArray := prog_12_method_5_code
abbrev my_X10_isOffered : MethodName := ⟨"WhiteElephants$Things", "isOffered", "(I)Z"⟩
theorem md_X10_isOffered : MD my_X10_isOffered 1 := ⟨by decide, by decide, by decide +kernel⟩
abbrev mb_X10_isSold : ByteArray := prog_12_method_4_code
abbrev my_X10_isSold : MethodName := ⟨"WhiteElephants$Things", "isSold", "(I)Z"⟩
theorem md_X10_isSold : MD my_X10_isSold 1 := ⟨by decide, by decide, by decide +kernel⟩
abbrev mb_X10_lidWorth : ByteArray := prog_12_method_11_code
abbrev my_X10_lidWorth : MethodName := ⟨"WhiteElephants$Things", "lidWorth", "(I)I"⟩
theorem md_X10_lidWorth : MD my_X10_lidWorth 1 := ⟨by decide, by decide, by decide +kernel⟩
abbrev mb_X10_share : ByteArray := prog_12_method_15_code
abbrev my_X10_share : MethodName := ⟨"WhiteElephants$Things", "share", "(I)V"⟩
theorem md_X10_share : MD my_X10_share 1 := ⟨by decide, by decide, by decide +kernel⟩
abbrev mb_X10_trueWorth : ByteArray := prog_12_method_8_code
abbrev my_X10_trueWorth : MethodName := ⟨"WhiteElephants$Things", "trueWorth", "(I)I"⟩
theorem md_X10_trueWorth : MD my_X10_trueWorth 1 := ⟨by decide, by decide, by decide +kernel⟩
abbrev mb_X10_wordOf : ByteArray := prog_12_method_12_code
abbrev my_X10_wordOf : MethodName := ⟨"WhiteElephants$Things", "wordOf", "(II)I"⟩
theorem md_X10_wordOf : MD my_X10_wordOf 2 := ⟨by decide, by decide, by decide +kernel⟩
abbrev mb_X10_worthLeft : ByteArray := prog_12_method_14_code
abbrev my_X10_worthLeft : MethodName := ⟨"WhiteElephants$Things", "worthLeft", "(I)I"⟩
theorem md_X10_worthLeft : MD my_X10_worthLeft 1 := ⟨by decide, by decide, by decide +kernel⟩
abbrev mb_X11_back : ByteArray := prog_1_method_48_code
abbrev my_X11_back : MethodName := ⟨"WhiteElephants", "back", "()I"⟩
theorem md_X11_back : MD my_X11_back 0 := ⟨by decide, by decide, by decide +kernel⟩
abbrev mb_X11_best : ByteArray := prog_1_method_28_code
abbrev my_X11_best : MethodName := ⟨"WhiteElephants", "best", "()I"⟩
theorem md_X11_best : MD my_X11_best 0 := ⟨by decide, by decide, by decide +kernel⟩
abbrev mb_X11_buyer : ByteArray := prog_1_method_22_code
abbrev my_X11_buyer : MethodName := ⟨"WhiteElephants", "buyer", "(IIII)I"⟩
theorem md_X11_buyer : MD my_X11_buyer 4 := ⟨by decide, by decide, by decide +kernel⟩
abbrev mb_X11_buyerOf : ByteArray := prog_1_method_23_code
abbrev my_X11_buyerOf : MethodName := ⟨"WhiteElephants", "buyerOf", "(II)I"⟩
theorem md_X11_buyerOf : MD my_X11_buyerOf 2 := ⟨by decide, by decide, by decide +kernel⟩
abbrev mb_X11_chip : ByteArray := prog_1_method_12_code
abbrev my_X11_chip : MethodName := ⟨"WhiteElephants", "chip", "(II)I"⟩
theorem md_X11_chip : MD my_X11_chip 2 := ⟨by decide, by decide, by decide +kernel⟩
abbrev mb_X11_copy : ByteArray := prog_1_method_4_code
abbrev my_X11_copy : MethodName := ⟨"WhiteElephants", "copy", "(IIIII)I"⟩
theorem md_X11_copy : MD my_X11_copy 5 := ⟨by decide, by decide, by decide +kernel⟩
abbrev mb_X11_costs : ByteArray := prog_1_method_25_code
abbrev my_X11_costs : MethodName := ⟨"WhiteElephants", "costs", "(II)I"⟩
theorem md_X11_costs : MD my_X11_costs 2 := ⟨by decide, by decide, by decide +kernel⟩
abbrev mb_X11_day : ByteArray := prog_1_method_33_code
abbrev my_X11_day : MethodName := ⟨"WhiteElephants", "day", "(I)I"⟩
theorem md_X11_day : MD my_X11_day 1 := ⟨by decide, by decide, by decide +kernel⟩
abbrev mb_X11_element : ByteArray := prog_1_method_5_code
abbrev my_X11_element : MethodName := ⟨"WhiteElephants", "element", "(II)J"⟩
theorem md_X11_element : MD my_X11_element 2 := ⟨by decide, by decide, by decide +kernel⟩
abbrev mb_X11_feed : ByteArray := prog_1_method_15_code
abbrev my_X11_feed : MethodName := ⟨"WhiteElephants", "feed", "(II)I"⟩
theorem md_X11_feed : MD my_X11_feed 2 := ⟨by decide, by decide, by decide +kernel⟩
abbrev mb_X11_go : ByteArray := prog_1_method_32_code
abbrev my_X11_go : MethodName := ⟨"WhiteElephants", "go", "(I)I"⟩
theorem md_X11_go : MD my_X11_go 1 := ⟨by decide, by decide, by decide +kernel⟩
abbrev mb_X11_goes : ByteArray := prog_1_method_14_code
abbrev my_X11_goes : MethodName := ⟨"WhiteElephants", "goes", "(II)I"⟩
theorem md_X11_goes : MD my_X11_goes 2 := ⟨by decide, by decide, by decide +kernel⟩
abbrev mb_X11_hall : ByteArray := prog_1_method_46_code
abbrev my_X11_hall : MethodName := ⟨"WhiteElephants", "hall", "(II)I"⟩
theorem md_X11_hall : MD my_X11_hall 2 := ⟨by decide, by decide, by decide +kernel⟩
abbrev mb_X11_hasBit : ByteArray := prog_1_method_57_code
abbrev my_X11_hasBit : MethodName := ⟨"WhiteElephants", "hasBit", "(II)Z"⟩
theorem md_X11_hasBit : MD my_X11_hasBit 2 := ⟨by decide, by decide, by decide +kernel⟩
abbrev mb_X11_holds : ByteArray := prog_1_method_6_code
abbrev my_X11_holds : MethodName := ⟨"WhiteElephants", "holds", "(I)I"⟩
theorem md_X11_holds : MD my_X11_holds 1 := ⟨by decide, by decide, by decide +kernel⟩
abbrev mb_X11_image : ByteArray := prog_1_method_47_code
abbrev my_X11_image : MethodName := ⟨"WhiteElephants", "image", "()I"⟩
theorem md_X11_image : MD my_X11_image 0 := ⟨by decide, by decide, by decide +kernel⟩
abbrev mb_X11_init : ByteArray := prog_1_method_1_code
abbrev my_X11_init : MethodName := ⟨"WhiteElephants", "<init>", "()V"⟩
theorem md_X11_init : MD my_X11_init 0 := ⟨by decide, by decide, by decide +kernel⟩
abbrev mb_X11_isHour : ByteArray := prog_1_method_54_code
abbrev my_X11_isHour : MethodName := ⟨"WhiteElephants", "isHour", "(I)Z"⟩
theorem md_X11_isHour : MD my_X11_isHour 1 := ⟨by decide, by decide, by decide +kernel⟩
abbrev mb_X11_isKind : ByteArray := prog_1_method_52_code
abbrev my_X11_isKind : MethodName := ⟨"WhiteElephants", "isKind", "(I)Z"⟩
theorem md_X11_isKind : MD my_X11_isKind 1 := ⟨by decide, by decide, by decide +kernel⟩
abbrev mb_X11_isKinds : ByteArray := prog_1_method_53_code
abbrev my_X11_isKinds : MethodName := ⟨"WhiteElephants", "isKinds", "(I)Z"⟩
theorem md_X11_isKinds : MD my_X11_isKinds 1 := ⟨by decide, by decide, by decide +kernel⟩
abbrev mb_X11_isPerson : ByteArray := prog_1_method_55_code
abbrev my_X11_isPerson : MethodName := ⟨"WhiteElephants", "isPerson", "(I)Z"⟩
theorem md_X11_isPerson : MD my_X11_isPerson 1 := ⟨by decide, by decide, by decide +kernel⟩
abbrev mb_X11_isPersonOrNone : ByteArray := prog_1_method_56_code
abbrev my_X11_isPersonOrNone : MethodName := ⟨"WhiteElephants", "isPersonOrNone", "(I)Z"⟩
theorem md_X11_isPersonOrNone : MD my_X11_isPersonOrNone 1 := ⟨by decide, by decide, by decide +kernel⟩
abbrev mb_X11_isShelf : ByteArray := prog_1_method_51_code
abbrev my_X11_isShelf : MethodName := ⟨"WhiteElephants", "isShelf", "(I)Z"⟩
theorem md_X11_isShelf : MD my_X11_isShelf 1 := ⟨by decide, by decide, by decide +kernel⟩
abbrev mb_X11_judge : ByteArray := prog_1_method_29_code
abbrev my_X11_judge : MethodName := ⟨"WhiteElephants", "judge", "(I)I"⟩
theorem md_X11_judge : MD my_X11_judge 1 := ⟨by decide, by decide, by decide +kernel⟩
abbrev mb_X11_lady : ByteArray := prog_1_method_13_code
abbrev my_X11_lady : MethodName := ⟨"WhiteElephants", "lady", "(II)I"⟩
theorem md_X11_lady : MD my_X11_lady 2 := ⟨by decide, by decide, by decide +kernel⟩
abbrev mb_X11_laid : ByteArray := prog_1_method_44_code
abbrev my_X11_laid : MethodName := ⟨"WhiteElephants", "laid", "(II)I"⟩
theorem md_X11_laid : MD my_X11_laid 2 := ⟨by decide, by decide, by decide +kernel⟩
abbrev mb_X11_law : ByteArray := prog_1_method_17_code
abbrev my_X11_law : MethodName := ⟨"WhiteElephants", "law", "()I"⟩
theorem md_X11_law : MD my_X11_law 0 := ⟨by decide, by decide, by decide +kernel⟩
abbrev mb_X11_lawOf : ByteArray := prog_1_method_18_code
abbrev my_X11_lawOf : MethodName := ⟨"WhiteElephants", "lawOf", "(II)I"⟩
theorem md_X11_lawOf : MD my_X11_lawOf 2 := ⟨by decide, by decide, by decide +kernel⟩
abbrev mb_X11_longest : ByteArray := prog_1_method_41_code
abbrev my_X11_longest : MethodName := ⟨"WhiteElephants", "longest", "()I"⟩
theorem md_X11_longest : MD my_X11_longest 0 := ⟨by decide, by decide, by decide +kernel⟩
abbrev mb_X11_looks : ByteArray := prog_1_method_43_code
abbrev my_X11_looks : MethodName := ⟨"WhiteElephants", "looks", "(II)I"⟩
theorem md_X11_looks : MD my_X11_looks 2 := ⟨by decide, by decide, by decide +kernel⟩
abbrev mb_X11_loses : ByteArray := prog_1_method_31_code
abbrev my_X11_loses : MethodName := ⟨"WhiteElephants", "loses", "(II)I"⟩
theorem md_X11_loses : MD my_X11_loses 2 := ⟨by decide, by decide, by decide +kernel⟩
abbrev mb_X11_mark : ByteArray := prog_1_method_21_code
abbrev my_X11_mark : MethodName := ⟨"WhiteElephants", "mark", "(II)I"⟩
theorem md_X11_mark : MD my_X11_mark 2 := ⟨by decide, by decide, by decide +kernel⟩
abbrev mb_X11_morning : ByteArray := prog_1_method_34_code
abbrev my_X11_morning : MethodName := ⟨"WhiteElephants", "morning", "()I"⟩
theorem md_X11_morning : MD my_X11_morning 0 := ⟨by decide, by decide, by decide +kernel⟩
abbrev mb_X11_price : ByteArray := prog_1_method_20_code
abbrev my_X11_price : MethodName := ⟨"WhiteElephants", "price", "(II)I"⟩
theorem md_X11_price : MD my_X11_price 2 := ⟨by decide, by decide, by decide +kernel⟩
abbrev mb_X11_refusalOfRow : ByteArray := prog_1_method_59_code
abbrev my_X11_refusalOfRow : MethodName := ⟨"WhiteElephants", "refusalOfRow", "(I)I"⟩
theorem md_X11_refusalOfRow : MD my_X11_refusalOfRow 1 := ⟨by decide, by decide, by decide +kernel⟩
abbrev mb_X11_refuse : ByteArray := prog_1_method_58_code
abbrev my_X11_refuse : MethodName := ⟨"WhiteElephants", "refuse", "(I)I"⟩
theorem md_X11_refuse : MD my_X11_refuse 1 := ⟨by decide, by decide, by decide +kernel⟩
abbrev mb_X11_rest : ByteArray := prog_1_method_30_code
abbrev my_X11_rest : MethodName := ⟨"WhiteElephants", "rest", "(I)I"⟩
theorem md_X11_rest : MD my_X11_rest 1 := ⟨by decide, by decide, by decide +kernel⟩
abbrev mb_X11_row : ByteArray := prog_1_method_2_code
abbrev my_X11_row : MethodName := ⟨"WhiteElephants", "row", "(III)I"⟩
theorem md_X11_row : MD my_X11_row 3 := ⟨by decide, by decide, by decide +kernel⟩
abbrev mb_X11_same : ByteArray := prog_1_method_39_code
abbrev my_X11_same : MethodName := ⟨"WhiteElephants", "same", "(II)I"⟩
theorem md_X11_same : MD my_X11_same 2 := ⟨by decide, by decide, by decide +kernel⟩
abbrev mb_X11_says : ByteArray := prog_1_method_8_code
abbrev my_X11_says : MethodName := ⟨"WhiteElephants", "says", "(II)I"⟩
theorem md_X11_says : MD my_X11_says 2 := ⟨by decide, by decide, by decide +kernel⟩
abbrev mb_X11_secret : ByteArray := prog_1_method_42_code
abbrev my_X11_secret : MethodName := ⟨"WhiteElephants", "secret", "(II)I"⟩
theorem md_X11_secret : MD my_X11_secret 2 := ⟨by decide, by decide, by decide +kernel⟩
abbrev mb_X11_set : ByteArray := prog_1_method_3_code
abbrev my_X11_set : MethodName := ⟨"WhiteElephants", "set", "(IIJ)I"⟩
theorem md_X11_set : MD my_X11_set 3 := ⟨by decide, by decide, by decide +kernel⟩
abbrev mb_X11_shelvesInUse : ByteArray := prog_1_method_60_code
abbrev my_X11_shelvesInUse : MethodName := ⟨"WhiteElephants", "shelvesInUse", "()I"⟩
theorem md_X11_shelvesInUse : MD my_X11_shelvesInUse 0 := ⟨by decide, by decide, by decide +kernel⟩
abbrev mb_X11_shortBy : ByteArray := prog_1_method_45_code
abbrev my_X11_shortBy : MethodName := ⟨"WhiteElephants", "shortBy", "(I)I"⟩
theorem md_X11_shortBy : MD my_X11_shortBy 1 := ⟨by decide, by decide, by decide +kernel⟩
abbrev mb_X11_show : ByteArray := prog_1_method_7_code
abbrev my_X11_show : MethodName := ⟨"WhiteElephants", "show", "(II)I"⟩
theorem md_X11_show : MD my_X11_show 2 := ⟨by decide, by decide, by decide +kernel⟩
abbrev mb_X11_shown : ByteArray := prog_1_method_35_code
abbrev my_X11_shown : MethodName := ⟨"WhiteElephants", "shown", "(I)I"⟩
theorem md_X11_shown : MD my_X11_shown 1 := ⟨by decide, by decide, by decide +kernel⟩
abbrev mb_X11_sight : ByteArray := prog_1_method_38_code
abbrev my_X11_sight : MethodName := ⟨"WhiteElephants", "sight", "(IIII)I"⟩
theorem md_X11_sight : MD my_X11_sight 4 := ⟨by decide, by decide, by decide +kernel⟩
abbrev mb_X11_status : ByteArray := prog_1_method_49_code
abbrev my_X11_status : MethodName := ⟨"WhiteElephants", "status", "(I)I"⟩
theorem md_X11_status : MD my_X11_status 1 := ⟨by decide, by decide, by decide +kernel⟩
abbrev mb_X11_table : ByteArray := prog_1_method_36_code
abbrev my_X11_table : MethodName := ⟨"WhiteElephants", "table", "(I)I"⟩
theorem md_X11_table : MD my_X11_table 1 := ⟨by decide, by decide, by decide +kernel⟩
abbrev mb_X11_takes : ByteArray := prog_1_method_26_code
abbrev my_X11_takes : MethodName := ⟨"WhiteElephants", "takes", "(II)I"⟩
theorem md_X11_takes : MD my_X11_takes 2 := ⟨by decide, by decide, by decide +kernel⟩
abbrev mb_X11_takings : ByteArray := prog_1_method_27_code
abbrev my_X11_takings : MethodName := ⟨"WhiteElephants", "takings", "(II)I"⟩
theorem md_X11_takings : MD my_X11_takings 2 := ⟨by decide, by decide, by decide +kernel⟩
abbrev mb_X11_thing : ByteArray := prog_1_method_9_code
abbrev my_X11_thing : MethodName := ⟨"WhiteElephants", "thing", "(III)I"⟩
theorem md_X11_thing : MD my_X11_thing 3 := ⟨by decide, by decide, by decide +kernel⟩
abbrev mb_X11_thingOf : ByteArray := prog_1_method_11_code
abbrev my_X11_thingOf : MethodName := ⟨"WhiteElephants", "thingOf", "(II)I"⟩
theorem md_X11_thingOf : MD my_X11_thingOf 2 := ⟨by decide, by decide, by decide +kernel⟩
abbrev mb_X11_things : ByteArray := prog_1_method_10_code
abbrev my_X11_things : MethodName := ⟨"WhiteElephants", "things", "(III)I"⟩
theorem md_X11_things : MD my_X11_things 3 := ⟨by decide, by decide, by decide +kernel⟩
abbrev mb_X11_thinks : ByteArray := prog_1_method_19_code
abbrev my_X11_thinks : MethodName := ⟨"WhiteElephants", "thinks", "(IIZ)I"⟩
theorem md_X11_thinks : MD my_X11_thinks 3 := ⟨by decide, by decide, by decide +kernel⟩
abbrev mb_X11_turn : ByteArray := prog_1_method_24_code
abbrev my_X11_turn : MethodName := ⟨"WhiteElephants", "turn", "(II)I"⟩
theorem md_X11_turn : MD my_X11_turn 2 := ⟨by decide, by decide, by decide +kernel⟩
abbrev mb_X11_vases : ByteArray := prog_1_method_40_code
abbrev my_X11_vases : MethodName := ⟨"WhiteElephants", "vases", "()I"⟩
theorem md_X11_vases : MD my_X11_vases 0 := ⟨by decide, by decide, by decide +kernel⟩
abbrev mb_X11_who : ByteArray := prog_1_method_37_code
abbrev my_X11_who : MethodName := ⟨"WhiteElephants", "who", "(I)I"⟩
theorem md_X11_who : MD my_X11_who 1 := ⟨by decide, by decide, by decide +kernel⟩
abbrev mb_X11_wipe : ByteArray := prog_1_method_16_code
abbrev my_X11_wipe : MethodName := ⟨"WhiteElephants", "wipe", "()I"⟩
theorem md_X11_wipe : MD my_X11_wipe 0 := ⟨by decide, by decide, by decide +kernel⟩
abbrev mb_X11_within : ByteArray := prog_1_method_50_code
abbrev my_X11_within : MethodName := ⟨"WhiteElephants", "within", "(III)Z"⟩
theorem md_X11_within : MD my_X11_within 3 := ⟨by decide, by decide, by decide +kernel⟩
abbrev mb_X12_areKinds : ByteArray := prog_14_method_12_code
abbrev my_X12_areKinds : MethodName := ⟨"WhiteElephantsModel", "areKinds", "(I)Z"⟩
theorem md_X12_areKinds : MD my_X12_areKinds 1 := ⟨by decide, by decide, by decide +kernel⟩
abbrev mb_X12_asNow : ByteArray := prog_14_method_53_code
abbrev my_X12_asNow : MethodName := ⟨"WhiteElephantsModel", "asNow", "()V"⟩
theorem md_X12_asNow : MD my_X12_asNow 0 := ⟨by decide, by decide, by decide +kernel⟩
abbrev mb_X12_back : ByteArray := prog_14_method_85_code
abbrev my_X12_back : MethodName := ⟨"WhiteElephantsModel", "back", "()I"⟩
theorem md_X12_back : MD my_X12_back 0 := ⟨by decide, by decide, by decide +kernel⟩
abbrev mb_X12_best : ByteArray := prog_14_method_57_code
abbrev my_X12_best : MethodName := ⟨"WhiteElephantsModel", "best", "()I"⟩
theorem md_X12_best : MD my_X12_best 0 := ⟨by decide, by decide, by decide +kernel⟩
abbrev mb_X12_buyer : ByteArray := prog_14_method_47_code
abbrev my_X12_buyer : MethodName := ⟨"WhiteElephantsModel", "buyer", "(IIII)I"⟩
theorem md_X12_buyer : MD my_X12_buyer 4 := ⟨by decide, by decide, by decide +kernel⟩
abbrev mb_X12_buyerOf : ByteArray := prog_14_method_48_code
abbrev my_X12_buyerOf : MethodName := ⟨"WhiteElephantsModel", "buyerOf", "(II)I"⟩
theorem md_X12_buyerOf : MD my_X12_buyerOf 2 := ⟨by decide, by decide, by decide +kernel⟩
abbrev mb_X12_chip : ByteArray := prog_14_method_29_code
abbrev my_X12_chip : MethodName := ⟨"WhiteElephantsModel", "chip", "(II)I"⟩
theorem md_X12_chip : MD my_X12_chip 2 := ⟨by decide, by decide, by decide +kernel⟩
abbrev mb_X12_chipsOf : ByteArray := prog_14_method_24_code
abbrev my_X12_chipsOf : MethodName := ⟨"WhiteElephantsModel", "chipsOf", "(I)I"⟩
theorem md_X12_chipsOf : MD my_X12_chipsOf 1 := ⟨by decide, by decide, by decide +kernel⟩
abbrev mb_X12_choice : ByteArray := prog_14_method_52_code
abbrev my_X12_choice : MethodName := ⟨"WhiteElephantsModel", "choice", "(IIII)I"⟩
theorem md_X12_choice : MD my_X12_choice 4 := ⟨by decide, by decide, by decide +kernel⟩
abbrev mb_X12_copy : ByteArray := prog_14_method_18_code
abbrev my_X12_copy : MethodName := ⟨"WhiteElephantsModel", "copy", "(IIIII)I"⟩
theorem md_X12_copy : MD my_X12_copy 5 := ⟨by decide, by decide, by decide +kernel⟩
abbrev mb_X12_costIn : ByteArray := prog_14_method_50_code
abbrev my_X12_costIn : MethodName := ⟨"WhiteElephantsModel", "costIn", "(IIII)I"⟩
theorem md_X12_costIn : MD my_X12_costIn 4 := ⟨by decide, by decide, by decide +kernel⟩
abbrev mb_X12_costs : ByteArray := prog_14_method_51_code
abbrev my_X12_costs : MethodName := ⟨"WhiteElephantsModel", "costs", "(II)I"⟩
theorem md_X12_costs : MD my_X12_costs 2 := ⟨by decide, by decide, by decide +kernel⟩
abbrev mb_X12_day : ByteArray := prog_14_method_63_code
abbrev my_X12_day : MethodName := ⟨"WhiteElephantsModel", "day", "(I)I"⟩
theorem md_X12_day : MD my_X12_day 1 := ⟨by decide, by decide, by decide +kernel⟩
abbrev mb_X12_element : ByteArray := prog_14_method_19_code
abbrev my_X12_element : MethodName := ⟨"WhiteElephantsModel", "element", "(II)J"⟩
theorem md_X12_element : MD my_X12_element 2 := ⟨by decide, by decide, by decide +kernel⟩
abbrev mb_X12_feed : ByteArray := prog_14_method_32_code
abbrev my_X12_feed : MethodName := ⟨"WhiteElephantsModel", "feed", "(II)I"⟩
theorem md_X12_feed : MD my_X12_feed 2 := ⟨by decide, by decide, by decide +kernel⟩
abbrev mb_X12_finest : ByteArray := prog_14_method_80_code
abbrev my_X12_finest : MethodName := ⟨"WhiteElephantsModel", "finest", "(I)I"⟩
theorem md_X12_finest : MD my_X12_finest 1 := ⟨by decide, by decide, by decide +kernel⟩
abbrev mb_X12_fits : ByteArray := prog_14_method_77_code
abbrev my_X12_fits : MethodName := ⟨"WhiteElephantsModel", "fits", "(I)Z"⟩
theorem md_X12_fits : MD my_X12_fits 1 := ⟨by decide, by decide, by decide +kernel⟩
abbrev mb_X12_follow : ByteArray := prog_14_method_72_code
abbrev my_X12_follow : MethodName := ⟨"WhiteElephantsModel", "follow", "(I)Z"⟩
theorem md_X12_follow : MD my_X12_follow 1 := ⟨by decide, by decide, by decide +kernel⟩
abbrev mb_X12_go : ByteArray := prog_14_method_61_code
abbrev my_X12_go : MethodName := ⟨"WhiteElephantsModel", "go", "(I)I"⟩
theorem md_X12_go : MD my_X12_go 1 := ⟨by decide, by decide, by decide +kernel⟩
abbrev mb_X12_goes : ByteArray := prog_14_method_31_code
abbrev my_X12_goes : MethodName := ⟨"WhiteElephantsModel", "goes", "(II)I"⟩
theorem md_X12_goes : MD my_X12_goes 2 := ⟨by decide, by decide, by decide +kernel⟩
abbrev mb_X12_hall : ByteArray := prog_14_method_81_code
abbrev my_X12_hall : MethodName := ⟨"WhiteElephantsModel", "hall", "(II)I"⟩
theorem md_X12_hall : MD my_X12_hall 2 := ⟨by decide, by decide, by decide +kernel⟩
abbrev mb_X12_holds : ByteArray := prog_14_method_20_code
abbrev my_X12_holds : MethodName := ⟨"WhiteElephantsModel", "holds", "(I)I"⟩
theorem md_X12_holds : MD my_X12_holds 1 := ⟨by decide, by decide, by decide +kernel⟩
abbrev mb_X12_holdsThing : ByteArray := prog_14_method_5_code
abbrev my_X12_holdsThing : MethodName := ⟨"WhiteElephantsModel", "holdsThing", "(I)Z"⟩
theorem md_X12_holdsThing : MD my_X12_holdsThing 1 := ⟨by decide, by decide, by decide +kernel⟩
abbrev mb_X12_image : ByteArray := prog_14_method_84_code
abbrev my_X12_image : MethodName := ⟨"WhiteElephantsModel", "image", "()I"⟩
theorem md_X12_image : MD my_X12_image 0 := ⟨by decide, by decide, by decide +kernel⟩
abbrev mb_X12_init : ByteArray := prog_14_method_1_code
abbrev my_X12_init : MethodName := ⟨"WhiteElephantsModel", "<init>", "()V"⟩
theorem md_X12_init : MD my_X12_init 0 := ⟨by decide, by decide, by decide +kernel⟩
abbrev mb_X12_is : ByteArray := prog_14_method_37_code
abbrev my_X12_is : MethodName := ⟨"WhiteElephantsModel", "is", "(IILjava/lang/String;)Z"⟩
theorem md_X12_is : MD my_X12_is 3 := ⟨by decide, by decide, by decide +kernel⟩
abbrev mb_X12_isBuyer : ByteArray := prog_14_method_9_code
abbrev my_X12_isBuyer : MethodName := ⟨"WhiteElephantsModel", "isBuyer", "(I)Z"⟩
theorem md_X12_isBuyer : MD my_X12_isBuyer 1 := ⟨by decide, by decide, by decide +kernel⟩
abbrev mb_X12_isDigit : ByteArray := prog_14_method_35_code
abbrev my_X12_isDigit : MethodName := ⟨"WhiteElephantsModel", "isDigit", "(I)Z"⟩
theorem md_X12_isDigit : MD my_X12_isDigit 1 := ⟨by decide, by decide, by decide +kernel⟩
abbrev mb_X12_isHour : ByteArray := prog_14_method_10_code
abbrev my_X12_isHour : MethodName := ⟨"WhiteElephantsModel", "isHour", "(I)Z"⟩
theorem md_X12_isHour : MD my_X12_isHour 1 := ⟨by decide, by decide, by decide +kernel⟩
abbrev mb_X12_isKind : ByteArray := prog_14_method_11_code
abbrev my_X12_isKind : MethodName := ⟨"WhiteElephantsModel", "isKind", "(I)Z"⟩
theorem md_X12_isKind : MD my_X12_isKind 1 := ⟨by decide, by decide, by decide +kernel⟩
abbrev mb_X12_isLady : ByteArray := prog_14_method_7_code
abbrev my_X12_isLady : MethodName := ⟨"WhiteElephantsModel", "isLady", "(I)Z"⟩
theorem md_X12_isLady : MD my_X12_isLady 1 := ⟨by decide, by decide, by decide +kernel⟩
abbrev mb_X12_isLaw : ByteArray := prog_14_method_8_code
abbrev my_X12_isLaw : MethodName := ⟨"WhiteElephantsModel", "isLaw", "(I)Z"⟩
theorem md_X12_isLaw : MD my_X12_isLaw 1 := ⟨by decide, by decide, by decide +kernel⟩
abbrev mb_X12_isLetter : ByteArray := prog_14_method_34_code
abbrev my_X12_isLetter : MethodName := ⟨"WhiteElephantsModel", "isLetter", "(I)Z"⟩
theorem md_X12_isLetter : MD my_X12_isLetter 1 := ⟨by decide, by decide, by decide +kernel⟩
abbrev mb_X12_isOf : ByteArray := prog_14_method_14_code
abbrev my_X12_isOf : MethodName := ⟨"WhiteElephantsModel", "isOf", "(II)Z"⟩
theorem md_X12_isOf : MD my_X12_isOf 2 := ⟨by decide, by decide, by decide +kernel⟩
abbrev mb_X12_isPerson : ByteArray := prog_14_method_13_code
abbrev my_X12_isPerson : MethodName := ⟨"WhiteElephantsModel", "isPerson", "(I)Z"⟩
theorem md_X12_isPerson : MD my_X12_isPerson 1 := ⟨by decide, by decide, by decide +kernel⟩
abbrev mb_X12_isRow : ByteArray := prog_14_method_4_code
abbrev my_X12_isRow : MethodName := ⟨"WhiteElephantsModel", "isRow", "(I)Z"⟩
theorem md_X12_isRow : MD my_X12_isRow 1 := ⟨by decide, by decide, by decide +kernel⟩
abbrev mb_X12_isShelf : ByteArray := prog_14_method_3_code
abbrev my_X12_isShelf : MethodName := ⟨"WhiteElephantsModel", "isShelf", "(I)Z"⟩
theorem md_X12_isShelf : MD my_X12_isShelf 1 := ⟨by decide, by decide, by decide +kernel⟩
abbrev mb_X12_isThing : ByteArray := prog_14_method_6_code
abbrev my_X12_isThing : MethodName := ⟨"WhiteElephantsModel", "isThing", "(I)Z"⟩
theorem md_X12_isThing : MD my_X12_isThing 1 := ⟨by decide, by decide, by decide +kernel⟩
abbrev mb_X12_isUnder : ByteArray := prog_14_method_22_code
abbrev my_X12_isUnder : MethodName := ⟨"WhiteElephantsModel", "isUnder", "(II)Z"⟩
theorem md_X12_isUnder : MD my_X12_isUnder 2 := ⟨by decide, by decide, by decide +kernel⟩
abbrev mb_X12_judge : ByteArray := prog_14_method_58_code
abbrev my_X12_judge : MethodName := ⟨"WhiteElephantsModel", "judge", "(I)I"⟩
theorem md_X12_judge : MD my_X12_judge 1 := ⟨by decide, by decide, by decide +kernel⟩
abbrev mb_X12_lady : ByteArray := prog_14_method_30_code
abbrev my_X12_lady : MethodName := ⟨"WhiteElephantsModel", "lady", "(II)I"⟩
theorem md_X12_lady : MD my_X12_lady 2 := ⟨by decide, by decide, by decide +kernel⟩
abbrev mb_X12_laid : ByteArray := prog_14_method_78_code
abbrev my_X12_laid : MethodName := ⟨"WhiteElephantsModel", "laid", "(II)I"⟩
theorem md_X12_laid : MD my_X12_laid 2 := ⟨by decide, by decide, by decide +kernel⟩
abbrev mb_X12_law : ByteArray := prog_14_method_40_code
abbrev my_X12_law : MethodName := ⟨"WhiteElephantsModel", "law", "()I"⟩
theorem md_X12_law : MD my_X12_law 0 := ⟨by decide, by decide, by decide +kernel⟩
abbrev mb_X12_lawOf : ByteArray := prog_14_method_41_code
abbrev my_X12_lawOf : MethodName := ⟨"WhiteElephantsModel", "lawOf", "(II)I"⟩
theorem md_X12_lawOf : MD my_X12_lawOf 2 := ⟨by decide, by decide, by decide +kernel⟩
abbrev mb_X12_longest : ByteArray := prog_14_method_74_code
abbrev my_X12_longest : MethodName := ⟨"WhiteElephantsModel", "longest", "()I"⟩
theorem md_X12_longest : MD my_X12_longest 0 := ⟨by decide, by decide, by decide +kernel⟩
abbrev mb_X12_looks : ByteArray := prog_14_method_76_code
abbrev my_X12_looks : MethodName := ⟨"WhiteElephantsModel", "looks", "(II)I"⟩
theorem md_X12_looks : MD my_X12_looks 2 := ⟨by decide, by decide, by decide +kernel⟩
abbrev mb_X12_loses : ByteArray := prog_14_method_60_code
abbrev my_X12_loses : MethodName := ⟨"WhiteElephantsModel", "loses", "(II)I"⟩
theorem md_X12_loses : MD my_X12_loses 2 := ⟨by decide, by decide, by decide +kernel⟩
abbrev mb_X12_lostBy : ByteArray := prog_14_method_43_code
abbrev my_X12_lostBy : MethodName := ⟨"WhiteElephantsModel", "lostBy", "(II)I"⟩
theorem md_X12_lostBy : MD my_X12_lostBy 2 := ⟨by decide, by decide, by decide +kernel⟩
abbrev mb_X12_lostOver : ByteArray := prog_14_method_67_code
abbrev my_X12_lostOver : MethodName := ⟨"WhiteElephantsModel", "lostOver", "(II)I"⟩
theorem md_X12_lostOver : MD my_X12_lostOver 2 := ⟨by decide, by decide, by decide +kernel⟩
abbrev mb_X12_mark : ByteArray := prog_14_method_46_code
abbrev my_X12_mark : MethodName := ⟨"WhiteElephantsModel", "mark", "(II)I"⟩
theorem md_X12_mark : MD my_X12_mark 2 := ⟨by decide, by decide, by decide +kernel⟩
abbrev mb_X12_mayBe : ByteArray := prog_14_method_38_code
abbrev my_X12_mayBe : MethodName := ⟨"WhiteElephantsModel", "mayBe", "(II)Z"⟩
theorem md_X12_mayBe : MD my_X12_mayBe 2 := ⟨by decide, by decide, by decide +kernel⟩
abbrev mb_X12_mayBecome : ByteArray := prog_14_method_70_code
abbrev my_X12_mayBecome : MethodName := ⟨"WhiteElephantsModel", "mayBecome", "(II)Z"⟩
theorem md_X12_mayBecome : MD my_X12_mayBecome 2 := ⟨by decide, by decide, by decide +kernel⟩
abbrev mb_X12_morning : ByteArray := prog_14_method_64_code
abbrev my_X12_morning : MethodName := ⟨"WhiteElephantsModel", "morning", "()I"⟩
theorem md_X12_morning : MD my_X12_morning 0 := ⟨by decide, by decide, by decide +kernel⟩
abbrev mb_X12_move : ByteArray := prog_14_method_82_code
abbrev my_X12_move : MethodName := ⟨"WhiteElephantsModel", "move", "([IIZ)I"⟩
theorem md_X12_move : MD my_X12_move 3 := ⟨by decide, by decide, by decide +kernel⟩
abbrev mb_X12_moveAll : ByteArray := prog_14_method_83_code
abbrev my_X12_moveAll : MethodName := ⟨"WhiteElephantsModel", "moveAll", "(Z)V"⟩
theorem md_X12_moveAll : MD my_X12_moveAll 1 := ⟨by decide, by decide, by decide +kernel⟩
abbrev mb_X12_no : ByteArray := prog_14_method_2_code
abbrev my_X12_no : MethodName := ⟨"WhiteElephantsModel", "no", "(I)I"⟩
theorem md_X12_no : MD my_X12_no 1 := ⟨by decide, by decide, by decide +kernel⟩
abbrev mb_X12_noRow : ByteArray := prog_14_method_16_code
abbrev my_X12_noRow : MethodName := ⟨"WhiteElephantsModel", "noRow", "(I)I"⟩
theorem md_X12_noRow : MD my_X12_noRow 1 := ⟨by decide, by decide, by decide +kernel⟩
abbrev mb_X12_price : ByteArray := prog_14_method_45_code
abbrev my_X12_price : MethodName := ⟨"WhiteElephantsModel", "price", "(II)I"⟩
theorem md_X12_price : MD my_X12_price 2 := ⟨by decide, by decide, by decide +kernel⟩
abbrev mb_X12_priceBy : ByteArray := prog_14_method_42_code
abbrev my_X12_priceBy : MethodName := ⟨"WhiteElephantsModel", "priceBy", "(II)I"⟩
theorem md_X12_priceBy : MD my_X12_priceBy 2 := ⟨by decide, by decide, by decide +kernel⟩
abbrev mb_X12_read : ByteArray := prog_14_method_39_code
abbrev my_X12_read : MethodName := ⟨"WhiteElephantsModel", "read", "(I)I"⟩
theorem md_X12_read : MD my_X12_read 1 := ⟨by decide, by decide, by decide +kernel⟩
abbrev mb_X12_rest : ByteArray := prog_14_method_59_code
abbrev my_X12_rest : MethodName := ⟨"WhiteElephantsModel", "rest", "(I)I"⟩
theorem md_X12_rest : MD my_X12_rest 1 := ⟨by decide, by decide, by decide +kernel⟩
abbrev mb_X12_row : ByteArray := prog_14_method_15_code
abbrev my_X12_row : MethodName := ⟨"WhiteElephantsModel", "row", "(III)I"⟩
theorem md_X12_row : MD my_X12_row 3 := ⟨by decide, by decide, by decide +kernel⟩
abbrev mb_X12_same : ByteArray := prog_14_method_71_code
abbrev my_X12_same : MethodName := ⟨"WhiteElephantsModel", "same", "(II)I"⟩
theorem md_X12_same : MD my_X12_same 2 := ⟨by decide, by decide, by decide +kernel⟩
abbrev mb_X12_says : ByteArray := prog_14_method_23_code
abbrev my_X12_says : MethodName := ⟨"WhiteElephantsModel", "says", "(II)I"⟩
theorem md_X12_says : MD my_X12_says 2 := ⟨by decide, by decide, by decide +kernel⟩
abbrev mb_X12_secret : ByteArray := prog_14_method_75_code
abbrev my_X12_secret : MethodName := ⟨"WhiteElephantsModel", "secret", "(II)I"⟩
theorem md_X12_secret : MD my_X12_secret 2 := ⟨by decide, by decide, by decide +kernel⟩
abbrev mb_X12_set : ByteArray := prog_14_method_17_code
abbrev my_X12_set : MethodName := ⟨"WhiteElephantsModel", "set", "(IIJ)I"⟩
theorem md_X12_set : MD my_X12_set 3 := ⟨by decide, by decide, by decide +kernel⟩
abbrev mb_X12_shortBy : ByteArray := prog_14_method_79_code
abbrev my_X12_shortBy : MethodName := ⟨"WhiteElephantsModel", "shortBy", "(I)I"⟩
theorem md_X12_shortBy : MD my_X12_shortBy 1 := ⟨by decide, by decide, by decide +kernel⟩
abbrev mb_X12_show : ByteArray := prog_14_method_21_code
abbrev my_X12_show : MethodName := ⟨"WhiteElephantsModel", "show", "(II)I"⟩
theorem md_X12_show : MD my_X12_show 2 := ⟨by decide, by decide, by decide +kernel⟩
abbrev mb_X12_shown : ByteArray := prog_14_method_65_code
abbrev my_X12_shown : MethodName := ⟨"WhiteElephantsModel", "shown", "(I)I"⟩
theorem md_X12_shown : MD my_X12_shown 1 := ⟨by decide, by decide, by decide +kernel⟩
abbrev mb_X12_sight : ByteArray := prog_14_method_69_code
abbrev my_X12_sight : MethodName := ⟨"WhiteElephantsModel", "sight", "(IIII)I"⟩
theorem md_X12_sight : MD my_X12_sight 4 := ⟨by decide, by decide, by decide +kernel⟩
abbrev mb_X12_sold : ByteArray := prog_14_method_62_code
abbrev my_X12_sold : MethodName := ⟨"WhiteElephantsModel", "sold", "()I"⟩
theorem md_X12_sold : MD my_X12_sold 0 := ⟨by decide, by decide, by decide +kernel⟩
abbrev mb_X12_status : ByteArray := prog_14_method_86_code
abbrev my_X12_status : MethodName := ⟨"WhiteElephantsModel", "status", "(I)I"⟩
theorem md_X12_status : MD my_X12_status 1 := ⟨by decide, by decide, by decide +kernel⟩
abbrev mb_X12_table : ByteArray := prog_14_method_66_code
abbrev my_X12_table : MethodName := ⟨"WhiteElephantsModel", "table", "(I)I"⟩
theorem md_X12_table : MD my_X12_table 1 := ⟨by decide, by decide, by decide +kernel⟩
abbrev mb_X12_takes : ByteArray := prog_14_method_54_code
abbrev my_X12_takes : MethodName := ⟨"WhiteElephantsModel", "takes", "(II)I"⟩
theorem md_X12_takes : MD my_X12_takes 2 := ⟨by decide, by decide, by decide +kernel⟩
abbrev mb_X12_takings : ByteArray := prog_14_method_56_code
abbrev my_X12_takings : MethodName := ⟨"WhiteElephantsModel", "takings", "(II)I"⟩
theorem md_X12_takings : MD my_X12_takings 2 := ⟨by decide, by decide, by decide +kernel⟩
abbrev mb_X12_thing : ByteArray := prog_14_method_26_code
abbrev my_X12_thing : MethodName := ⟨"WhiteElephantsModel", "thing", "(III)I"⟩
theorem md_X12_thing : MD my_X12_thing 3 := ⟨by decide, by decide, by decide +kernel⟩
abbrev mb_X12_thingOf : ByteArray := prog_14_method_28_code
abbrev my_X12_thingOf : MethodName := ⟨"WhiteElephantsModel", "thingOf", "(II)I"⟩
theorem md_X12_thingOf : MD my_X12_thingOf 2 := ⟨by decide, by decide, by decide +kernel⟩
abbrev mb_X12_things : ByteArray := prog_14_method_27_code
abbrev my_X12_things : MethodName := ⟨"WhiteElephantsModel", "things", "(III)I"⟩
theorem md_X12_things : MD my_X12_things 3 := ⟨by decide, by decide, by decide +kernel⟩
abbrev mb_X12_thinks : ByteArray := prog_14_method_44_code
abbrev my_X12_thinks : MethodName := ⟨"WhiteElephantsModel", "thinks", "(IIZ)I"⟩
theorem md_X12_thinks : MD my_X12_thinks 3 := ⟨by decide, by decide, by decide +kernel⟩
abbrev mb_X12_trueWorth : ByteArray := prog_14_method_25_code
abbrev my_X12_trueWorth : MethodName := ⟨"WhiteElephantsModel", "trueWorth", "(I)I"⟩
theorem md_X12_trueWorth : MD my_X12_trueWorth 1 := ⟨by decide, by decide, by decide +kernel⟩
abbrev mb_X12_turn : ByteArray := prog_14_method_49_code
abbrev my_X12_turn : MethodName := ⟨"WhiteElephantsModel", "turn", "(II)I"⟩
theorem md_X12_turn : MD my_X12_turn 2 := ⟨by decide, by decide, by decide +kernel⟩
abbrev mb_X12_vases : ByteArray := prog_14_method_73_code
abbrev my_X12_vases : MethodName := ⟨"WhiteElephantsModel", "vases", "()I"⟩
theorem md_X12_vases : MD my_X12_vases 0 := ⟨by decide, by decide, by decide +kernel⟩
abbrev mb_X12_who : ByteArray := prog_14_method_68_code
abbrev my_X12_who : MethodName := ⟨"WhiteElephantsModel", "who", "(I)I"⟩
theorem md_X12_who : MD my_X12_who 1 := ⟨by decide, by decide, by decide +kernel⟩
abbrev mb_X12_wholeDay : ByteArray := prog_14_method_55_code
abbrev my_X12_wholeDay : MethodName := ⟨"WhiteElephantsModel", "wholeDay", "(II)I"⟩
theorem md_X12_wholeDay : MD my_X12_wholeDay 2 := ⟨by decide, by decide, by decide +kernel⟩
abbrev mb_X12_wipe : ByteArray := prog_14_method_33_code
abbrev my_X12_wipe : MethodName := ⟨"WhiteElephantsModel", "wipe", "()I"⟩
theorem md_X12_wipe : MD my_X12_wipe 0 := ⟨by decide, by decide, by decide +kernel⟩
abbrev mb_X12_wordAt : ByteArray := prog_14_method_36_code
abbrev my_X12_wordAt : MethodName := ⟨"WhiteElephantsModel", "wordAt", "(II)I"⟩
theorem md_X12_wordAt : MD my_X12_wordAt 2 := ⟨by decide, by decide, by decide +kernel⟩
abbrev mb_X1_become : ByteArray := prog_3_method_11_code
abbrev my_X1_become : MethodName := ⟨"WhiteElephants$Hall", "become", "(LWhiteElephants$Hall;)V"⟩
theorem md_X1_become : MD my_X1_become 1 := ⟨by decide, by decide, by decide +kernel⟩
abbrev mb_X1_bestLady : ByteArray := prog_3_method_8_code
abbrev my_X1_bestLady : MethodName := ⟨"WhiteElephants$Hall", "bestLady", "(II)I"⟩
theorem md_X1_bestLady : MD my_X1_bestLady 2 := ⟨by decide, by decide, by decide +kernel⟩
abbrev mb_X1_init : ByteArray := prog_3_method_1_code
abbrev my_X1_init : MethodName := ⟨"WhiteElephants$Hall", "<init>", "()V"⟩
theorem md_X1_init : MD my_X1_init 0 := ⟨by decide, by decide, by decide +kernel⟩
abbrev mb_X1_ladyAt : ByteArray := prog_3_method_10_code
abbrev my_X1_ladyAt : MethodName := ⟨"WhiteElephants$Hall", "ladyAt", "(I)I"⟩
theorem md_X1_ladyAt : MD my_X1_ladyAt 1 := ⟨by decide, by decide, by decide +kernel⟩
abbrev mb_X1_lostOn : ByteArray := prog_3_method_4_code
abbrev my_X1_lostOn : MethodName := ⟨"WhiteElephants$Hall", "lostOn", "(II)I"⟩
theorem md_X1_lostOn : MD my_X1_lostOn 2 := ⟨by decide, by decide, by decide +kernel⟩
abbrev mb_X1_lostOnKinds : ByteArray := prog_3_method_5_code
abbrev my_X1_lostOnKinds : MethodName := ⟨"WhiteElephants$Hall", "lostOnKinds", "(II)I"⟩
theorem md_X1_lostOnKinds : MD my_X1_lostOnKinds 2 := ⟨by decide, by decide, by decide +kernel⟩
abbrev mb_X1_lostWith : ByteArray := prog_3_method_9_code
abbrev my_X1_lostWith : MethodName := ⟨"WhiteElephants$Hall", "lostWith", "(III)I"⟩
theorem md_X1_lostWith : MD my_X1_lostWith 3 := ⟨by decide, by decide, by decide +kernel⟩
abbrev mb_X1_planTables : ByteArray := prog_3_method_7_code
abbrev my_X1_planTables : MethodName := ⟨"WhiteElephants$Hall", "planTables", "()V"⟩
theorem md_X1_planTables : MD my_X1_planTables 0 := ⟨by decide, by decide, by decide +kernel⟩
abbrev mb_X1_priceAll : ByteArray := prog_3_method_6_code
abbrev my_X1_priceAll : MethodName := ⟨"WhiteElephants$Hall", "priceAll", "(II)I"⟩
theorem md_X1_priceAll : MD my_X1_priceAll 2 := ⟨by decide, by decide, by decide +kernel⟩
abbrev mb_X1_priceBy : ByteArray := prog_3_method_2_code
abbrev my_X1_priceBy : MethodName := ⟨"WhiteElephants$Hall", "priceBy", "(II)I"⟩
theorem md_X1_priceBy : MD my_X1_priceBy 2 := ⟨by decide, by decide, by decide +kernel⟩
abbrev mb_X1_priceOf : ByteArray := prog_3_method_3_code
abbrev my_X1_priceOf : MethodName := ⟨"WhiteElephants$Hall", "priceOf", "(III)I"⟩
theorem md_X1_priceOf : MD my_X1_priceOf 3 := ⟨by decide, by decide, by decide +kernel⟩
abbrev mb_X2_add : ByteArray := prog_4_method_3_code
abbrev my_X2_add : MethodName := ⟨"WhiteElephants$Ladies", "add", "(II)I"⟩
theorem md_X2_add : MD my_X2_add 2 := ⟨by decide, by decide, by decide +kernel⟩
abbrev mb_X2_become : ByteArray := prog_4_method_4_code
abbrev my_X2_become : MethodName := ⟨"WhiteElephants$Ladies", "become", "(LWhiteElephants$Ladies;)V"⟩
theorem md_X2_become : MD my_X2_become 1 := ⟨by decide, by decide, by decide +kernel⟩
abbrev mb_X2_has : ByteArray := prog_4_method_2_code
abbrev my_X2_has : MethodName := ⟨"WhiteElephants$Ladies", "has", "(I)Z"⟩
theorem md_X2_has : MD my_X2_has 1 := ⟨by decide, by decide, by decide +kernel⟩
abbrev mb_X2_init : ByteArray := prog_4_method_1_code
abbrev my_X2_init : MethodName := ⟨"WhiteElephants$Ladies", "<init>", "()V"⟩
theorem md_X2_init : MD my_X2_init 0 := ⟨by decide, by decide, by decide +kernel⟩
abbrev mb_X3_addDraft : ByteArray := prog_5_method_6_code
abbrev my_X3_addDraft : MethodName := ⟨"WhiteElephants$Laws", "addDraft", "()I"⟩
theorem md_X3_addDraft : MD my_X3_addDraft 0 := ⟨by decide, by decide, by decide +kernel⟩
abbrev mb_X3_become : ByteArray := prog_5_method_7_code
abbrev my_X3_become : MethodName := ⟨"WhiteElephants$Laws", "become", "(LWhiteElephants$Laws;)V"⟩
theorem md_X3_become : MD my_X3_become 1 := ⟨by decide, by decide, by decide +kernel⟩
abbrev mb_X3_clearDraft : ByteArray := prog_5_method_5_code
abbrev my_X3_clearDraft : MethodName := ⟨"WhiteElephants$Laws", "clearDraft", "()V"⟩
theorem md_X3_clearDraft : MD my_X3_clearDraft 0 := ⟨by decide, by decide, by decide +kernel⟩
abbrev mb_X3_has : ByteArray := prog_5_method_3_code
abbrev my_X3_has : MethodName := ⟨"WhiteElephants$Laws", "has", "(I)Z"⟩
theorem md_X3_has : MD my_X3_has 1 := ⟨by decide, by decide, by decide +kernel⟩
abbrev mb_X3_init : ByteArray := prog_5_method_1_code
abbrev my_X3_init : MethodName := ⟨"WhiteElephants$Laws", "<init>", "()V"⟩
theorem md_X3_init : MD my_X3_init 0 := ⟨by decide, by decide, by decide +kernel⟩
abbrev mb_X3_mayTell : ByteArray := prog_5_method_2_code
abbrev my_X3_mayTell : MethodName := ⟨"WhiteElephants$Laws", "mayTell", "(II)Z"⟩
theorem md_X3_mayTell : MD my_X3_mayTell 2 := ⟨by decide, by decide, by decide +kernel⟩
abbrev mb_X3_part : ByteArray := prog_5_method_4_code
abbrev my_X3_part : MethodName := ⟨"WhiteElephants$Laws", "part", "(II)I"⟩
theorem md_X3_part : MD my_X3_part 2 := ⟨by decide, by decide, by decide +kernel⟩
abbrev mb_X4_addBargain : ByteArray := prog_6_method_3_code
abbrev my_X4_addBargain : MethodName := ⟨"WhiteElephants$Picks", "addBargain", "(IIII)V"⟩
theorem md_X4_addBargain : MD my_X4_addBargain 4 := ⟨by decide, by decide, by decide +kernel⟩
abbrev mb_X4_addPaid : ByteArray := prog_6_method_5_code
abbrev my_X4_addPaid : MethodName := ⟨"WhiteElephants$Picks", "addPaid", "(III)V"⟩
theorem md_X4_addPaid : MD my_X4_addPaid 3 := ⟨by decide, by decide, by decide +kernel⟩
abbrev mb_X4_bargains : ByteArray := prog_6_method_2_code
abbrev my_X4_bargains : MethodName := ⟨"WhiteElephants$Picks", "bargains", "(LWhiteElephants$Things;I)I"⟩
theorem md_X4_bargains : MD my_X4_bargains 2 := ⟨by decide, by decide, by decide +kernel⟩
abbrev mb_X4_fewestPaid : ByteArray := prog_6_method_4_code
abbrev my_X4_fewestPaid : MethodName := ⟨"WhiteElephants$Picks", "fewestPaid", "(LWhiteElephants$Things;I)I"⟩
theorem md_X4_fewestPaid : MD my_X4_fewestPaid 2 := ⟨by decide, by decide, by decide +kernel⟩
abbrev mb_X4_init : ByteArray := prog_6_method_1_code
abbrev my_X4_init : MethodName := ⟨"WhiteElephants$Picks", "<init>", "()V"⟩
theorem md_X4_init : MD my_X4_init 0 := ⟨by decide, by decide, by decide +kernel⟩
abbrev mb_X5_bestTurns : ByteArray := prog_7_method_10_code
abbrev my_X5_bestTurns : MethodName := ⟨"WhiteElephants$Sale", "bestTurns", "(LWhiteElephants$Hall;)I"⟩
theorem md_X5_bestTurns : MD my_X5_bestTurns 1 := ⟨by decide, by decide, by decide +kernel⟩
abbrev mb_X5_cost : ByteArray := prog_7_method_3_code
abbrev my_X5_cost : MethodName := ⟨"WhiteElephants$Sale", "cost", "(II)I"⟩
theorem md_X5_cost : MD my_X5_cost 2 := ⟨by decide, by decide, by decide +kernel⟩
abbrev mb_X5_init : ByteArray := prog_7_method_1_code
abbrev my_X5_init : MethodName := ⟨"WhiteElephants$Sale", "<init>", "()V"⟩
theorem md_X5_init : MD my_X5_init 0 := ⟨by decide, by decide, by decide +kernel⟩
abbrev mb_X5_open : ByteArray := prog_7_method_4_code
abbrev my_X5_open : MethodName := ⟨"WhiteElephants$Sale", "open", "(LWhiteElephants$Hall;II)V"⟩
theorem md_X5_open : MD my_X5_open 3 := ⟨by decide, by decide, by decide +kernel⟩
abbrev mb_X5_placeWanted : ByteArray := prog_7_method_7_code
abbrev my_X5_placeWanted : MethodName := ⟨"WhiteElephants$Sale", "placeWanted", "(LWhiteElephants$Hall;II)I"⟩
theorem md_X5_placeWanted : MD my_X5_placeWanted 3 := ⟨by decide, by decide, by decide +kernel⟩
abbrev mb_X5_playHour : ByteArray := prog_7_method_6_code
abbrev my_X5_playHour : MethodName := ⟨"WhiteElephants$Sale", "playHour", "(LWhiteElephants$Hall;I)I"⟩
theorem md_X5_playHour : MD my_X5_playHour 2 := ⟨by decide, by decide, by decide +kernel⟩
abbrev mb_X5_sell : ByteArray := prog_7_method_8_code
abbrev my_X5_sell : MethodName := ⟨"WhiteElephants$Sale", "sell", "(III)I"⟩
theorem md_X5_sell : MD my_X5_sell 3 := ⟨by decide, by decide, by decide +kernel⟩
abbrev mb_X5_settle : ByteArray := prog_7_method_11_code
abbrev my_X5_settle : MethodName := ⟨"WhiteElephants$Sale", "settle", "(LWhiteElephants$Hall;)V"⟩
theorem md_X5_settle : MD my_X5_settle 1 := ⟨by decide, by decide, by decide +kernel⟩
abbrev mb_X5_stage : ByteArray := prog_7_method_2_code
abbrev my_X5_stage : MethodName := ⟨"WhiteElephants$Sale", "stage", "(III)I"⟩
theorem md_X5_stage : MD my_X5_stage 3 := ⟨by decide, by decide, by decide +kernel⟩
abbrev mb_X5_wanted : ByteArray := prog_7_method_5_code
abbrev my_X5_wanted : MethodName := ⟨"WhiteElephants$Sale", "wanted", "(LWhiteElephants$Hall;II)I"⟩
theorem md_X5_wanted : MD my_X5_wanted 3 := ⟨by decide, by decide, by decide +kernel⟩
abbrev mb_X5_wholeDay : ByteArray := prog_7_method_9_code
abbrev my_X5_wholeDay : MethodName := ⟨"WhiteElephants$Sale", "wholeDay", "(LWhiteElephants$Hall;II)I"⟩
theorem md_X5_wholeDay : MD my_X5_wholeDay 3 := ⟨by decide, by decide, by decide +kernel⟩
abbrev mb_X6_add : ByteArray := prog_8_method_2_code
abbrev my_X6_add : MethodName := ⟨"WhiteElephants$Secrets", "add", "(II)I"⟩
theorem md_X6_add : MD my_X6_add 2 := ⟨by decide, by decide, by decide +kernel⟩
abbrev mb_X6_become : ByteArray := prog_8_method_8_code
abbrev my_X6_become : MethodName := ⟨"WhiteElephants$Secrets", "become", "(LWhiteElephants$Secrets;)V"⟩
theorem md_X6_become : MD my_X6_become 1 := ⟨by decide, by decide, by decide +kernel⟩
abbrev mb_X6_canLie : ByteArray := prog_8_method_7_code
abbrev my_X6_canLie : MethodName := ⟨"WhiteElephants$Secrets", "canLie", "(I)Z"⟩
theorem md_X6_canLie : MD my_X6_canLie 1 := ⟨by decide, by decide, by decide +kernel⟩
abbrev mb_X6_findHidden : ByteArray := prog_8_method_5_code
abbrev my_X6_findHidden : MethodName := ⟨"WhiteElephants$Secrets", "findHidden", "()V"⟩
theorem md_X6_findHidden : MD my_X6_findHidden 0 := ⟨by decide, by decide, by decide +kernel⟩
abbrev mb_X6_firstTable : ByteArray := prog_8_method_6_code
abbrev my_X6_firstTable : MethodName := ⟨"WhiteElephants$Secrets", "firstTable", "(I)I"⟩
theorem md_X6_firstTable : MD my_X6_firstTable 1 := ⟨by decide, by decide, by decide +kernel⟩
abbrev mb_X6_init : ByteArray := prog_8_method_1_code
abbrev my_X6_init : MethodName := ⟨"WhiteElephants$Secrets", "<init>", "()V"⟩
theorem md_X6_init : MD my_X6_init 0 := ⟨by decide, by decide, by decide +kernel⟩
abbrev mb_X6_lay : ByteArray := prog_8_method_3_code
abbrev my_X6_lay : MethodName := ⟨"WhiteElephants$Secrets", "lay", "(I)Z"⟩
theorem md_X6_lay : MD my_X6_lay 1 := ⟨by decide, by decide, by decide +kernel⟩
abbrev mb_X6_tableOf : ByteArray := prog_8_method_4_code
abbrev my_X6_tableOf : MethodName := ⟨"WhiteElephants$Secrets", "tableOf", "(I)I"⟩
theorem md_X6_tableOf : MD my_X6_tableOf 1 := ⟨by decide, by decide, by decide +kernel⟩
abbrev mb_X7_at : ByteArray := prog_9_method_7_code
abbrev my_X7_at : MethodName := ⟨"WhiteElephants$Shelf", "at", "(I)J"⟩
theorem md_X7_at : MD my_X7_at 1 := ⟨by decide, by decide, by decide +kernel⟩
abbrev mb_X7_cutToSort : ByteArray := prog_9_method_9_code
abbrev my_X7_cutToSort : MethodName := ⟨"WhiteElephants$Shelf", "cutToSort", "(J)J"⟩
theorem md_X7_cutToSort : MD my_X7_cutToSort 1 := ⟨by decide, by decide, by decide +kernel⟩
abbrev mb_X7_hasPlaces : ByteArray := prog_9_method_5_code
abbrev my_X7_hasPlaces : MethodName := ⟨"WhiteElephants$Shelf", "hasPlaces", "(II)Z"⟩
theorem md_X7_hasPlaces : MD my_X7_hasPlaces 2 := ⟨by decide, by decide, by decide +kernel⟩
abbrev mb_X7_hasRow : ByteArray := prog_9_method_3_code
abbrev my_X7_hasRow : MethodName := ⟨"WhiteElephants$Shelf", "hasRow", "()Z"⟩
theorem md_X7_hasRow : MD my_X7_hasRow 0 := ⟨by decide, by decide, by decide +kernel⟩
abbrev mb_X7_hasThing : ByteArray := prog_9_method_4_code
abbrev my_X7_hasThing : MethodName := ⟨"WhiteElephants$Shelf", "hasThing", "()Z"⟩
theorem md_X7_hasThing : MD my_X7_hasThing 0 := ⟨by decide, by decide, by decide +kernel⟩
abbrev mb_X7_init : ByteArray := prog_9_method_1_code
abbrev my_X7_init : MethodName := ⟨"WhiteElephants$Shelf", "<init>", "()V"⟩
theorem md_X7_init : MD my_X7_init 0 := ⟨by decide, by decide, by decide +kernel⟩
abbrev mb_X7_isEmpty : ByteArray := prog_9_method_2_code
abbrev my_X7_isEmpty : MethodName := ⟨"WhiteElephants$Shelf", "isEmpty", "()Z"⟩
theorem md_X7_isEmpty : MD my_X7_isEmpty 0 := ⟨by decide, by decide, by decide +kernel⟩
abbrev mb_X7_put : ByteArray := prog_9_method_8_code
abbrev my_X7_put : MethodName := ⟨"WhiteElephants$Shelf", "put", "(IJ)V"⟩
theorem md_X7_put : MD my_X7_put 2 := ⟨by decide, by decide, by decide +kernel⟩
abbrev mb_X7_takeRow : ByteArray := prog_9_method_6_code
abbrev my_X7_takeRow : MethodName := ⟨"WhiteElephants$Shelf", "takeRow", "(II)V"⟩
theorem md_X7_takeRow : MD my_X7_takeRow 2 := ⟨by decide, by decide, by decide +kernel⟩
abbrev mb_X8_add : ByteArray := prog_10_method_3_code
abbrev my_X8_add : MethodName := ⟨"WhiteElephants$Sightings", "add", "(IIII)I"⟩
theorem md_X8_add : MD my_X8_add 4 := ⟨by decide, by decide, by decide +kernel⟩
abbrev mb_X8_become : ByteArray := prog_10_method_9_code
abbrev my_X8_become : MethodName := ⟨"WhiteElephants$Sightings", "become", "(LWhiteElephants$Sightings;)V"⟩
theorem md_X8_become : MD my_X8_become 1 := ⟨by decide, by decide, by decide +kernel⟩
abbrev mb_X8_fewestVases : ByteArray := prog_10_method_5_code
abbrev my_X8_fewestVases : MethodName := ⟨"WhiteElephants$Sightings", "fewestVases", "()I"⟩
theorem md_X8_fewestVases : MD my_X8_fewestVases 0 := ⟨by decide, by decide, by decide +kernel⟩
abbrev mb_X8_findsNext : ByteArray := prog_10_method_6_code
abbrev my_X8_findsNext : MethodName := ⟨"WhiteElephants$Sightings", "findsNext", "(LWhiteElephants$Sightings;II)Z"⟩
theorem md_X8_findsNext : MD my_X8_findsNext 3 := ⟨by decide, by decide, by decide +kernel⟩
abbrev mb_X8_has : ByteArray := prog_10_method_2_code
abbrev my_X8_has : MethodName := ⟨"WhiteElephants$Sightings", "has", "(I)Z"⟩
theorem md_X8_has : MD my_X8_has 1 := ⟨by decide, by decide, by decide +kernel⟩
abbrev mb_X8_init : ByteArray := prog_10_method_1_code
abbrev my_X8_init : MethodName := ⟨"WhiteElephants$Sightings", "<init>", "()V"⟩
theorem md_X8_init : MD my_X8_init 0 := ⟨by decide, by decide, by decide +kernel⟩
abbrev mb_X8_longestBefore : ByteArray := prog_10_method_8_code
abbrev my_X8_longestBefore : MethodName := ⟨"WhiteElephants$Sightings", "longestBefore", "(I)I"⟩
theorem md_X8_longestBefore : MD my_X8_longestBefore 1 := ⟨by decide, by decide, by decide +kernel⟩
abbrev mb_X8_longestRow : ByteArray := prog_10_method_7_code
abbrev my_X8_longestRow : MethodName := ⟨"WhiteElephants$Sightings", "longestRow", "()I"⟩
theorem md_X8_longestRow : MD my_X8_longestRow 0 := ⟨by decide, by decide, by decide +kernel⟩
abbrev mb_X8_mayBeOf : ByteArray := prog_10_method_4_code
abbrev my_X8_mayBeOf : MethodName := ⟨"WhiteElephants$Sightings", "mayBeOf", "(II)Z"⟩
theorem md_X8_mayBeOf : MD my_X8_mayBeOf 2 := ⟨by decide, by decide, by decide +kernel⟩
abbrev mb_X9_append : ByteArray := prog_11_method_2_code
abbrev my_X9_append : MethodName := ⟨"WhiteElephants$Tape", "append", "(II)V"⟩
theorem md_X9_append : MD my_X9_append 2 := ⟨by decide, by decide, by decide +kernel⟩
abbrev mb_X9_init : ByteArray := prog_11_method_1_code
abbrev my_X9_init : MethodName := ⟨"WhiteElephants$Tape", "<init>", "()V"⟩
theorem md_X9_init : MD my_X9_init 0 := ⟨by decide, by decide, by decide +kernel⟩
abbrev mb_X9_isDigit : ByteArray := prog_11_method_6_code
abbrev my_X9_isDigit : MethodName := ⟨"WhiteElephants$Tape", "isDigit", "(B)Z"⟩
theorem md_X9_isDigit : MD my_X9_isDigit 1 := ⟨by decide, by decide, by decide +kernel⟩
abbrev mb_X9_isLetter : ByteArray := prog_11_method_5_code
abbrev my_X9_isLetter : MethodName := ⟨"WhiteElephants$Tape", "isLetter", "(B)Z"⟩
theorem md_X9_isLetter : MD my_X9_isLetter 1 := ⟨by decide, by decide, by decide +kernel⟩
abbrev mb_X9_isWord : ByteArray := prog_11_method_8_code
abbrev my_X9_isWord : MethodName := ⟨"WhiteElephants$Tape", "isWord", "(Ljava/lang/String;)Z"⟩
theorem md_X9_isWord : MD my_X9_isWord 1 := ⟨by decide, by decide, by decide +kernel⟩
abbrev mb_X9_number : ByteArray := prog_11_method_9_code
abbrev my_X9_number : MethodName := ⟨"WhiteElephants$Tape", "number", "()I"⟩
theorem md_X9_number : MD my_X9_number 0 := ⟨by decide, by decide, by decide +kernel⟩
abbrev mb_X9_partNamed : ByteArray := prog_11_method_7_code
abbrev my_X9_partNamed : MethodName := ⟨"WhiteElephants$Tape", "partNamed", "()I"⟩
theorem md_X9_partNamed : MD my_X9_partNamed 0 := ⟨by decide, by decide, by decide +kernel⟩
abbrev mb_X9_readInto : ByteArray := prog_11_method_3_code
abbrev my_X9_readInto : MethodName := ⟨"WhiteElephants$Tape", "readInto", "(LWhiteElephants$Laws;)I"⟩
theorem md_X9_readInto : MD my_X9_readInto 1 := ⟨by decide, by decide, by decide +kernel⟩
abbrev mb_X9_step : ByteArray := prog_11_method_4_code
abbrev my_X9_step : MethodName := ⟨"WhiteElephants$Tape", "step", "()V"⟩
theorem md_X9_step : MD my_X9_step 0 := ⟨by decide, by decide, by decide +kernel⟩
theorem ef_0 : EF "WhiteElephants$Buyers" ET0 6 EY0 := ⟨bw_ps _ [237, 239, 241, 243, 245, 247] (by decide +kernel) (by decide +kernel), by decide +kernel, by decide +kernel⟩
theorem nd_0 : ∀ j, j < 6 → defaultValue (EY0 j) = vp_V [.null, .null, .null, .null, .null, .int 0] j := by
  intro j hj
  rcases (show j = 0 ∨ j = 1 ∨ j = 2 ∨ j = 3 ∨ j = 4 ∨ j = 5 by omega) with rfl | rfl | rfl | rfl | rfl | rfl <;> rfl
theorem ef_1 : EF "WhiteElephants$Hall" ET1 14 EY1 := ⟨bw_ps _ [347, 349, 351, 353, 355, 357, 359, 361, 363, 365, 367, 369, 371, 373] (by decide +kernel) (by decide +kernel), by decide +kernel, by decide +kernel⟩
theorem nd_1 : ∀ j, j < 14 → defaultValue (EY1 j) = vp_V [.null, .null, .null, .null, .null, .null, .null, .int 0, .int 0, .int 0, .int 0, .int 0, .null, .null] j := by
  intro j hj
  rcases (show j = 0 ∨ j = 1 ∨ j = 2 ∨ j = 3 ∨ j = 4 ∨ j = 5 ∨ j = 6 ∨ j = 7 ∨ j = 8 ∨ j = 9 ∨ j = 10 ∨ j = 11 ∨ j = 12 ∨ j = 13 by omega) with rfl | rfl | rfl | rfl | rfl | rfl | rfl | rfl | rfl | rfl | rfl | rfl | rfl | rfl <;> rfl
theorem ef_2 : EF "WhiteElephants$Ladies" ET2 4 EY2 := ⟨bw_ps _ [186, 188, 190, 192] (by decide +kernel) (by decide +kernel), by decide +kernel, by decide +kernel⟩
theorem nd_2 : ∀ j, j < 4 → defaultValue (EY2 j) = vp_V [.null, .null, .null, .int 0] j := by
  intro j hj
  rcases (show j = 0 ∨ j = 1 ∨ j = 2 ∨ j = 3 by omega) with rfl | rfl | rfl | rfl <;> rfl
theorem ef_3 : EF "WhiteElephants$Laws" ET3 3 EY3 := ⟨bw_ps _ [206, 208, 210] (by decide +kernel) (by decide +kernel), by decide +kernel, by decide +kernel⟩
theorem nd_3 : ∀ j, j < 3 → defaultValue (EY3 j) = vp_V [.null, .null, .int 0] j := by
  intro j hj
  rcases (show j = 0 ∨ j = 1 ∨ j = 2 by omega) with rfl | rfl | rfl <;> rfl
theorem ef_4 : EF "WhiteElephants$Picks" ET4 2 EY4 := ⟨bw_ps _ [418, 420] (by decide +kernel) (by decide +kernel), by decide +kernel, by decide +kernel⟩
theorem nd_4 : ∀ j, j < 2 → defaultValue (EY4 j) = vp_V [.null, .null] j := by
  intro j hj
  rcases (show j = 0 ∨ j = 1 by omega) with rfl | rfl <;> rfl
theorem ef_5 : EF "WhiteElephants$Sale" ET5 9 EY5 := ⟨bw_ps _ [391, 393, 395, 397, 399, 401, 403, 405, 407] (by decide +kernel) (by decide +kernel), by decide +kernel, by decide +kernel⟩
theorem nd_5 : ∀ j, j < 9 → defaultValue (EY5 j) = vp_V [.int 0, .int 0, .null, .int 0, .null, .null, .null, .null, .null] j := by
  intro j hj
  rcases (show j = 0 ∨ j = 1 ∨ j = 2 ∨ j = 3 ∨ j = 4 ∨ j = 5 ∨ j = 6 ∨ j = 7 ∨ j = 8 by omega) with rfl | rfl | rfl | rfl | rfl | rfl | rfl | rfl | rfl <;> rfl
theorem ef_6 : EF "WhiteElephants$Secrets" ET6 9 EY6 := ⟨bw_ps _ [299, 301, 303, 305, 307, 309, 311, 313, 315] (by decide +kernel) (by decide +kernel), by decide +kernel, by decide +kernel⟩
theorem nd_6 : ∀ j, j < 9 → defaultValue (EY6 j) = vp_V [.null, .null, .int 0, .null, .null, .null, .null, .int 0, .null] j := by
  intro j hj
  rcases (show j = 0 ∨ j = 1 ∨ j = 2 ∨ j = 3 ∨ j = 4 ∨ j = 5 ∨ j = 6 ∨ j = 7 ∨ j = 8 by omega) with rfl | rfl | rfl | rfl | rfl | rfl | rfl | rfl | rfl <;> rfl
theorem ef_7 : EF "WhiteElephants$Shelf" ET7 3 EY7 := ⟨bw_ps _ [434, 436, 438] (by decide +kernel) (by decide +kernel), by decide +kernel, by decide +kernel⟩
theorem nd_7 : ∀ j, j < 3 → defaultValue (EY7 j) = vp_V [.null, .int 0, .int 0] j := by
  intro j hj
  rcases (show j = 0 ∨ j = 1 ∨ j = 2 by omega) with rfl | rfl | rfl <;> rfl
theorem ef_8 : EF "WhiteElephants$Sightings" ET8 8 EY8 := ⟨bw_ps _ [265, 267, 269, 271, 273, 275, 277, 279] (by decide +kernel) (by decide +kernel), by decide +kernel, by decide +kernel⟩
theorem nd_8 : ∀ j, j < 8 → defaultValue (EY8 j) = vp_V [.null, .null, .null, .null, .int 0, .null, .null, .null] j := by
  intro j hj
  rcases (show j = 0 ∨ j = 1 ∨ j = 2 ∨ j = 3 ∨ j = 4 ∨ j = 5 ∨ j = 6 ∨ j = 7 by omega) with rfl | rfl | rfl | rfl | rfl | rfl | rfl | rfl <;> rfl
theorem ef_9 : EF "WhiteElephants$Tape" ET9 4 EY9 := ⟨bw_ps _ [103, 105, 107, 109] (by decide +kernel) (by decide +kernel), by decide +kernel, by decide +kernel⟩
theorem nd_9 : ∀ j, j < 4 → defaultValue (EY9 j) = vp_V [.null, .int 0, .int 0, .int 0] j := by
  intro j hj
  rcases (show j = 0 ∨ j = 1 ∨ j = 2 ∨ j = 3 by omega) with rfl | rfl | rfl | rfl <;> rfl
theorem ef_10 : EF "WhiteElephants$Things" ET10 8 EY10 := ⟨bw_ps _ [153, 155, 157, 159, 161, 163, 165, 167] (by decide +kernel) (by decide +kernel), by decide +kernel, by decide +kernel⟩
theorem nd_10 : ∀ j, j < 8 → defaultValue (EY10 j) = vp_V [.null, .null, .null, .null, .null, .null, .int 0, .null] j := by
  intro j hj
  rcases (show j = 0 ∨ j = 1 ∨ j = 2 ∨ j = 3 ∨ j = 4 ∨ j = 5 ∨ j = 6 ∨ j = 7 by omega) with rfl | rfl | rfl | rfl | rfl | rfl | rfl | rfl <;> rfl
theorem ef_11 : EF "WhiteElephants" ET11 8 EY11 := ⟨bw_ps _ [450, 452, 454, 456, 458, 460, 462, 464] (by decide +kernel) (by decide +kernel), by decide +kernel, by decide +kernel⟩
theorem nd_11 : ∀ j, j < 8 → defaultValue (EY11 j) = vp_V [.null, .null, .null, .null, .null, .null, .null, .int 0] j := by
  intro j hj
  rcases (show j = 0 ∨ j = 1 ∨ j = 2 ∨ j = 3 ∨ j = 4 ∨ j = 5 ∨ j = 6 ∨ j = 7 by omega) with rfl | rfl | rfl | rfl | rfl | rfl | rfl | rfl <;> rfl
theorem ef_12 : EF "WhiteElephantsModel" ET12 51 EY12 := ⟨bw_ps _ [1212, 1214, 1216, 1218, 1220, 1222, 1224, 1226, 1228, 1230, 1232, 1234, 1236, 1238, 1240, 1242, 1244, 1246, 1248, 1250, 1252, 1254, 1256, 1258, 1260, 1262, 1264, 1266, 1268, 1270, 1272, 1274, 1276, 1278, 1280, 1282, 1284, 1286, 1288, 1290, 1292, 1294, 1296, 1298, 1300, 1302, 1304, 1306, 1308, 1310, 1312] (by decide +kernel) (by decide +kernel), by decide +kernel, by decide +kernel⟩
theorem nd_12 : ∀ j, j < 51 → defaultValue (EY12 j) = vp_V [.null, .null, .null, .int 0, .null, .null, .null, .null, .null, .null, .int 0, .null, .null, .null, .int 0, .null, .int 0, .null, .int 0, .null, .null, .null, .null, .null, .int 0, .null, .int 0, .null, .null, .null, .null, .int 0, .null, .null, .null, .null, .null, .int 0, .null, .null, .null, .null, .null, .null, .null, .null, .null, .null, .null, .null, .null] j := by
  intro j hj
  rcases (show j = 0 ∨ j = 1 ∨ j = 2 ∨ j = 3 ∨ j = 4 ∨ j = 5 ∨ j = 6 ∨ j = 7 ∨ j = 8 ∨ j = 9 ∨ j = 10 ∨ j = 11 ∨ j = 12 ∨ j = 13 ∨ j = 14 ∨ j = 15 ∨ j = 16 ∨ j = 17 ∨ j = 18 ∨ j = 19 ∨ j = 20 ∨ j = 21 ∨ j = 22 ∨ j = 23 ∨ j = 24 ∨ j = 25 ∨ j = 26 ∨ j = 27 ∨ j = 28 ∨ j = 29 ∨ j = 30 ∨ j = 31 ∨ j = 32 ∨ j = 33 ∨ j = 34 ∨ j = 35 ∨ j = 36 ∨ j = 37 ∨ j = 38 ∨ j = 39 ∨ j = 40 ∨ j = 41 ∨ j = 42 ∨ j = 43 ∨ j = 44 ∨ j = 45 ∨ j = 46 ∨ j = 47 ∨ j = 48 ∨ j = 49 ∨ j = 50 by omega) with rfl | rfl | rfl | rfl | rfl | rfl | rfl | rfl | rfl | rfl | rfl | rfl | rfl | rfl | rfl | rfl | rfl | rfl | rfl | rfl | rfl | rfl | rfl | rfl | rfl | rfl | rfl | rfl | rfl | rfl | rfl | rfl | rfl | rfl | rfl | rfl | rfl | rfl | rfl | rfl | rfl | rfl | rfl | rfl | rfl | rfl | rfl | rfl | rfl | rfl | rfl <;> rfl
theorem kd_0 : KD[0]? = some (0, .inl 11) := by decide +kernel
theorem kd_1 : KD[1]? = some (1, .inr (4, 8)) := by decide +kernel
theorem kd_2 : KD[2]? = some (2, .inr (0, 5)) := by decide +kernel
theorem kd_3 : KD[3]? = some (3, .inl 9) := by decide +kernel
theorem kd_4 : KD[4]? = some (4, .inr (1, 120)) := by decide +kernel
theorem kd_5 : KD[5]? = some (5, .inl 1) := by decide +kernel
theorem kd_6 : KD[6]? = some (6, .inl 10) := by decide +kernel
theorem kd_7 : KD[7]? = some (7, .inr (0, 30)) := by decide +kernel
theorem kd_8 : KD[8]? = some (8, .inr (0, 30)) := by decide +kernel
theorem kd_9 : KD[9]? = some (9, .inr (0, 30)) := by decide +kernel
theorem kd_10 : KD[10]? = some (10, .inr (0, 30)) := by decide +kernel
theorem kd_11 : KD[11]? = some (11, .inr (0, 30)) := by decide +kernel
theorem kd_12 : KD[12]? = some (12, .inr (0, 30)) := by decide +kernel
theorem kd_13 : KD[13]? = some (13, .inr (0, 30)) := by decide +kernel
theorem kd_14 : KD[14]? = some (14, .inl 2) := by decide +kernel
theorem kd_15 : KD[15]? = some (15, .inr (0, 5)) := by decide +kernel
theorem kd_16 : KD[16]? = some (16, .inr (0, 5)) := by decide +kernel
theorem kd_17 : KD[17]? = some (17, .inr (0, 5)) := by decide +kernel
theorem kd_18 : KD[18]? = some (18, .inl 3) := by decide +kernel
theorem kd_19 : KD[19]? = some (19, .inr (0, 30)) := by decide +kernel
theorem kd_20 : KD[20]? = some (20, .inr (0, 5)) := by decide +kernel
theorem kd_21 : KD[21]? = some (21, .inl 0) := by decide +kernel
theorem kd_22 : KD[22]? = some (22, .inr (0, 12)) := by decide +kernel
theorem kd_23 : KD[23]? = some (23, .inr (0, 12)) := by decide +kernel
theorem kd_24 : KD[24]? = some (24, .inr (0, 12)) := by decide +kernel
theorem kd_25 : KD[25]? = some (25, .inr (0, 12)) := by decide +kernel
theorem kd_26 : KD[26]? = some (26, .inr (0, 12)) := by decide +kernel
theorem kd_27 : KD[27]? = some (27, .inl 8) := by decide +kernel
theorem kd_28 : KD[28]? = some (28, .inr (0, 20)) := by decide +kernel
theorem kd_29 : KD[29]? = some (29, .inr (0, 20)) := by decide +kernel
theorem kd_30 : KD[30]? = some (30, .inr (0, 20)) := by decide +kernel
theorem kd_31 : KD[31]? = some (31, .inr (0, 20)) := by decide +kernel
theorem kd_32 : KD[32]? = some (32, .inr (0, 20)) := by decide +kernel
theorem kd_33 : KD[33]? = some (33, .inr (0, 20)) := by decide +kernel
theorem kd_34 : KD[34]? = some (34, .inr (0, 20)) := by decide +kernel
theorem kd_35 : KD[35]? = some (35, .inl 6) := by decide +kernel
theorem kd_36 : KD[36]? = some (36, .inr (0, 10)) := by decide +kernel
theorem kd_37 : KD[37]? = some (37, .inr (0, 10)) := by decide +kernel
theorem kd_38 : KD[38]? = some (38, .inr (0, 16)) := by decide +kernel
theorem kd_39 : KD[39]? = some (39, .inr (0, 10)) := by decide +kernel
theorem kd_40 : KD[40]? = some (40, .inr (0, 10)) := by decide +kernel
theorem kd_41 : KD[41]? = some (41, .inr (0, 10)) := by decide +kernel
theorem kd_42 : KD[42]? = some (42, .inr (0, 5)) := by decide +kernel
theorem kd_43 : KD[43]? = some (43, .inr (0, 5)) := by decide +kernel
theorem kd_44 : KD[44]? = some (44, .inr (0, 25)) := by decide +kernel
theorem kd_45 : KD[45]? = some (45, .inr (0, 32)) := by decide +kernel
theorem kd_46 : KD[46]? = some (46, .inl 1) := by decide +kernel
theorem kd_47 : KD[47]? = some (47, .inl 10) := by decide +kernel
theorem kd_48 : KD[48]? = some (48, .inr (0, 30)) := by decide +kernel
theorem kd_49 : KD[49]? = some (49, .inr (0, 30)) := by decide +kernel
theorem kd_50 : KD[50]? = some (50, .inr (0, 30)) := by decide +kernel
theorem kd_51 : KD[51]? = some (51, .inr (0, 30)) := by decide +kernel
theorem kd_52 : KD[52]? = some (52, .inr (0, 30)) := by decide +kernel
theorem kd_53 : KD[53]? = some (53, .inr (0, 30)) := by decide +kernel
theorem kd_54 : KD[54]? = some (54, .inr (0, 30)) := by decide +kernel
theorem kd_55 : KD[55]? = some (55, .inl 2) := by decide +kernel
theorem kd_56 : KD[56]? = some (56, .inr (0, 5)) := by decide +kernel
theorem kd_57 : KD[57]? = some (57, .inr (0, 5)) := by decide +kernel
theorem kd_58 : KD[58]? = some (58, .inr (0, 5)) := by decide +kernel
theorem kd_59 : KD[59]? = some (59, .inl 3) := by decide +kernel
theorem kd_60 : KD[60]? = some (60, .inr (0, 30)) := by decide +kernel
theorem kd_61 : KD[61]? = some (61, .inr (0, 5)) := by decide +kernel
theorem kd_62 : KD[62]? = some (62, .inl 0) := by decide +kernel
theorem kd_63 : KD[63]? = some (63, .inr (0, 12)) := by decide +kernel
theorem kd_64 : KD[64]? = some (64, .inr (0, 12)) := by decide +kernel
theorem kd_65 : KD[65]? = some (65, .inr (0, 12)) := by decide +kernel
theorem kd_66 : KD[66]? = some (66, .inr (0, 12)) := by decide +kernel
theorem kd_67 : KD[67]? = some (67, .inr (0, 12)) := by decide +kernel
theorem kd_68 : KD[68]? = some (68, .inl 8) := by decide +kernel
theorem kd_69 : KD[69]? = some (69, .inr (0, 20)) := by decide +kernel
theorem kd_70 : KD[70]? = some (70, .inr (0, 20)) := by decide +kernel
theorem kd_71 : KD[71]? = some (71, .inr (0, 20)) := by decide +kernel
theorem kd_72 : KD[72]? = some (72, .inr (0, 20)) := by decide +kernel
theorem kd_73 : KD[73]? = some (73, .inr (0, 20)) := by decide +kernel
theorem kd_74 : KD[74]? = some (74, .inr (0, 20)) := by decide +kernel
theorem kd_75 : KD[75]? = some (75, .inr (0, 20)) := by decide +kernel
theorem kd_76 : KD[76]? = some (76, .inl 6) := by decide +kernel
theorem kd_77 : KD[77]? = some (77, .inr (0, 10)) := by decide +kernel
theorem kd_78 : KD[78]? = some (78, .inr (0, 10)) := by decide +kernel
theorem kd_79 : KD[79]? = some (79, .inr (0, 16)) := by decide +kernel
theorem kd_80 : KD[80]? = some (80, .inr (0, 10)) := by decide +kernel
theorem kd_81 : KD[81]? = some (81, .inr (0, 10)) := by decide +kernel
theorem kd_82 : KD[82]? = some (82, .inr (0, 10)) := by decide +kernel
theorem kd_83 : KD[83]? = some (83, .inr (0, 5)) := by decide +kernel
theorem kd_84 : KD[84]? = some (84, .inr (0, 5)) := by decide +kernel
theorem kd_85 : KD[85]? = some (85, .inr (0, 25)) := by decide +kernel
theorem kd_86 : KD[86]? = some (86, .inr (0, 32)) := by decide +kernel
theorem kd_87 : KD[87]? = some (87, .inl 5) := by decide +kernel
theorem kd_88 : KD[88]? = some (88, .inr (0, 30)) := by decide +kernel
theorem kd_89 : KD[89]? = some (89, .inr (0, 30)) := by decide +kernel
theorem kd_90 : KD[90]? = some (90, .inr (0, 30)) := by decide +kernel
theorem kd_91 : KD[91]? = some (91, .inr (0, 30)) := by decide +kernel
theorem kd_92 : KD[92]? = some (92, .inr (0, 12)) := by decide +kernel
theorem kd_93 : KD[93]? = some (93, .inr (0, 12)) := by decide +kernel
theorem kd_94 : KD[94]? = some (94, .inl 4) := by decide +kernel
theorem kd_95 : KD[95]? = some (95, .inr (0, 10000)) := by decide +kernel
theorem kd_96 : KD[96]? = some (96, .inr (0, 201)) := by decide +kernel
theorem kd_97 : KD[97]? = some (97, .inl 7) := by decide +kernel
theorem kd_98 : KD[98]? = some (98, .inr (2, 40)) := by decide +kernel
theorem kd_99 : KD[99]? = some (99, .inl 7) := by decide +kernel
theorem kd_100 : KD[100]? = some (100, .inr (2, 40)) := by decide +kernel
theorem kd_101 : KD[101]? = some (101, .inl 7) := by decide +kernel
theorem kd_102 : KD[102]? = some (102, .inr (2, 40)) := by decide +kernel
theorem kd_103 : KD[103]? = some (103, .inl 7) := by decide +kernel
theorem kd_104 : KD[104]? = some (104, .inr (2, 40)) := by decide +kernel
theorem kd_105 : KD[105]? = some (105, .inl 7) := by decide +kernel
theorem kd_106 : KD[106]? = some (106, .inr (2, 40)) := by decide +kernel
theorem kd_107 : KD[107]? = some (107, .inl 7) := by decide +kernel
theorem kd_108 : KD[108]? = some (108, .inr (2, 40)) := by decide +kernel
theorem kd_109 : KD[109]? = some (109, .inl 7) := by decide +kernel
theorem kd_110 : KD[110]? = some (110, .inr (2, 40)) := by decide +kernel
theorem kd_111 : KD[111]? = some (111, .inl 7) := by decide +kernel
theorem kd_112 : KD[112]? = some (112, .inr (2, 40)) := by decide +kernel
theorem kd_200 : KD[113]? = some (200, .inl 12) := by decide +kernel
theorem kd_201 : KD[114]? = some (201, .inr (0, 8)) := by decide +kernel
theorem kd_202 : KD[115]? = some (202, .inr (0, 8)) := by decide +kernel
theorem kd_203 : KD[116]? = some (203, .inr (2, 320)) := by decide +kernel
theorem kd_205 : KD[117]? = some (205, .inr (0, 30)) := by decide +kernel
theorem kd_206 : KD[118]? = some (206, .inr (0, 30)) := by decide +kernel
theorem kd_207 : KD[119]? = some (207, .inr (0, 30)) := by decide +kernel
theorem kd_208 : KD[120]? = some (208, .inr (0, 30)) := by decide +kernel
theorem kd_209 : KD[121]? = some (209, .inr (0, 30)) := by decide +kernel
theorem kd_210 : KD[122]? = some (210, .inr (0, 30)) := by decide +kernel
theorem kd_212 : KD[123]? = some (212, .inr (0, 5)) := by decide +kernel
theorem kd_213 : KD[124]? = some (213, .inr (0, 5)) := by decide +kernel
theorem kd_214 : KD[125]? = some (214, .inr (0, 5)) := by decide +kernel
theorem kd_216 : KD[126]? = some (216, .inr (0, 30)) := by decide +kernel
theorem kd_218 : KD[127]? = some (218, .inr (0, 120)) := by decide +kernel
theorem kd_220 : KD[128]? = some (220, .inr (0, 12)) := by decide +kernel
theorem kd_221 : KD[129]? = some (221, .inr (0, 12)) := by decide +kernel
theorem kd_222 : KD[130]? = some (222, .inr (0, 12)) := by decide +kernel
theorem kd_223 : KD[131]? = some (223, .inr (0, 12)) := by decide +kernel
theorem kd_224 : KD[132]? = some (224, .inr (0, 12)) := by decide +kernel
theorem kd_226 : KD[133]? = some (226, .inr (0, 5)) := by decide +kernel
theorem kd_228 : KD[134]? = some (228, .inr (0, 20)) := by decide +kernel
theorem kd_229 : KD[135]? = some (229, .inr (0, 20)) := by decide +kernel
theorem kd_230 : KD[136]? = some (230, .inr (0, 20)) := by decide +kernel
theorem kd_231 : KD[137]? = some (231, .inr (0, 20)) := by decide +kernel
theorem kd_233 : KD[138]? = some (233, .inr (0, 10)) := by decide +kernel
theorem kd_234 : KD[139]? = some (234, .inr (0, 10)) := by decide +kernel
theorem kd_235 : KD[140]? = some (235, .inr (0, 16)) := by decide +kernel
theorem kd_236 : KD[141]? = some (236, .inr (0, 4)) := by decide +kernel
theorem kd_237 : KD[142]? = some (237, .inr (0, 7)) := by decide +kernel
theorem kd_239 : KD[143]? = some (239, .inr (0, 460)) := by decide +kernel
theorem kd_240 : KD[144]? = some (240, .inr (0, 7)) := by decide +kernel
theorem kd_241 : KD[145]? = some (241, .inr (3, 30)) := by decide +kernel
theorem kd_242 : KD[146]? = some (242, .inr (0, 12)) := by decide +kernel
theorem kd_243 : KD[147]? = some (243, .inr (0, 6231)) := by decide +kernel
theorem kd_244 : KD[148]? = some (244, .inr (0, 20)) := by decide +kernel
theorem kd_245 : KD[149]? = some (245, .inr (0, 20)) := by decide +kernel
theorem kd_246 : KD[150]? = some (246, .inr (0, 20)) := by decide +kernel
theorem kd_247 : KD[151]? = some (247, .inr (0, 20)) := by decide +kernel
theorem kd_248 : KD[152]? = some (248, .inr (0, 30)) := by decide +kernel
theorem kd_249 : KD[153]? = some (249, .inr (0, 5)) := by decide +kernel
theorem kd_250 : KD[154]? = some (250, .inr (0, 25)) := by decide +kernel
theorem nl_0 : 0 ∉ lkL := by decide +kernel
theorem nl_1 : 1 ∉ lkL := by decide +kernel
theorem nl_2 : 2 ∉ lkL := by decide +kernel
theorem nl_3 : 3 ∉ lkL := by decide +kernel
theorem nl_4 : 4 ∉ lkL := by decide +kernel
theorem nl_5 : 5 ∉ lkL := by decide +kernel
theorem nl_6 : 6 ∉ lkL := by decide +kernel
theorem nl_7 : 7 ∉ lkL := by decide +kernel
theorem nl_8 : 8 ∉ lkL := by decide +kernel
theorem nl_9 : 9 ∉ lkL := by decide +kernel
theorem nl_10 : 10 ∉ lkL := by decide +kernel
theorem nl_11 : 11 ∉ lkL := by decide +kernel
theorem nl_12 : 12 ∉ lkL := by decide +kernel
theorem nl_13 : 13 ∉ lkL := by decide +kernel
theorem nl_14 : 14 ∉ lkL := by decide +kernel
theorem nl_15 : 15 ∉ lkL := by decide +kernel
theorem nl_16 : 16 ∉ lkL := by decide +kernel
theorem nl_17 : 17 ∉ lkL := by decide +kernel
theorem nl_18 : 18 ∉ lkL := by decide +kernel
theorem nl_19 : 19 ∉ lkL := by decide +kernel
theorem nl_20 : 20 ∉ lkL := by decide +kernel
theorem nl_21 : 21 ∉ lkL := by decide +kernel
theorem nl_22 : 22 ∉ lkL := by decide +kernel
theorem nl_23 : 23 ∉ lkL := by decide +kernel
theorem nl_24 : 24 ∉ lkL := by decide +kernel
theorem nl_25 : 25 ∉ lkL := by decide +kernel
theorem nl_26 : 26 ∉ lkL := by decide +kernel
theorem nl_27 : 27 ∉ lkL := by decide +kernel
theorem nl_28 : 28 ∉ lkL := by decide +kernel
theorem nl_29 : 29 ∉ lkL := by decide +kernel
theorem nl_30 : 30 ∉ lkL := by decide +kernel
theorem nl_31 : 31 ∉ lkL := by decide +kernel
theorem nl_32 : 32 ∉ lkL := by decide +kernel
theorem nl_33 : 33 ∉ lkL := by decide +kernel
theorem nl_34 : 34 ∉ lkL := by decide +kernel
theorem nl_35 : 35 ∉ lkL := by decide +kernel
theorem nl_36 : 36 ∉ lkL := by decide +kernel
theorem nl_37 : 37 ∉ lkL := by decide +kernel
theorem nl_38 : 38 ∉ lkL := by decide +kernel
theorem nl_39 : 39 ∉ lkL := by decide +kernel
theorem nl_40 : 40 ∉ lkL := by decide +kernel
theorem nl_41 : 41 ∉ lkL := by decide +kernel
theorem nl_42 : 42 ∉ lkL := by decide +kernel
theorem nl_43 : 43 ∉ lkL := by decide +kernel
theorem nl_44 : 44 ∉ lkL := by decide +kernel
theorem nl_45 : 45 ∉ lkL := by decide +kernel
theorem nl_46 : 46 ∉ lkL := by decide +kernel
theorem nl_47 : 47 ∉ lkL := by decide +kernel
theorem nl_48 : 48 ∉ lkL := by decide +kernel
theorem nl_49 : 49 ∉ lkL := by decide +kernel
theorem nl_50 : 50 ∉ lkL := by decide +kernel
theorem nl_51 : 51 ∉ lkL := by decide +kernel
theorem nl_52 : 52 ∉ lkL := by decide +kernel
theorem nl_53 : 53 ∉ lkL := by decide +kernel
theorem nl_54 : 54 ∉ lkL := by decide +kernel
theorem nl_55 : 55 ∉ lkL := by decide +kernel
theorem nl_56 : 56 ∉ lkL := by decide +kernel
theorem nl_57 : 57 ∉ lkL := by decide +kernel
theorem nl_58 : 58 ∉ lkL := by decide +kernel
theorem nl_59 : 59 ∉ lkL := by decide +kernel
theorem nl_60 : 60 ∉ lkL := by decide +kernel
theorem nl_61 : 61 ∉ lkL := by decide +kernel
theorem nl_62 : 62 ∉ lkL := by decide +kernel
theorem nl_63 : 63 ∉ lkL := by decide +kernel
theorem nl_64 : 64 ∉ lkL := by decide +kernel
theorem nl_65 : 65 ∉ lkL := by decide +kernel
theorem nl_66 : 66 ∉ lkL := by decide +kernel
theorem nl_67 : 67 ∉ lkL := by decide +kernel
theorem nl_68 : 68 ∉ lkL := by decide +kernel
theorem nl_69 : 69 ∉ lkL := by decide +kernel
theorem nl_70 : 70 ∉ lkL := by decide +kernel
theorem nl_71 : 71 ∉ lkL := by decide +kernel
theorem nl_72 : 72 ∉ lkL := by decide +kernel
theorem nl_73 : 73 ∉ lkL := by decide +kernel
theorem nl_74 : 74 ∉ lkL := by decide +kernel
theorem nl_75 : 75 ∉ lkL := by decide +kernel
theorem nl_76 : 76 ∉ lkL := by decide +kernel
theorem nl_77 : 77 ∉ lkL := by decide +kernel
theorem nl_78 : 78 ∉ lkL := by decide +kernel
theorem nl_79 : 79 ∉ lkL := by decide +kernel
theorem nl_80 : 80 ∉ lkL := by decide +kernel
theorem nl_81 : 81 ∉ lkL := by decide +kernel
theorem nl_82 : 82 ∉ lkL := by decide +kernel
theorem nl_83 : 83 ∉ lkL := by decide +kernel
theorem nl_84 : 84 ∉ lkL := by decide +kernel
theorem nl_85 : 85 ∉ lkL := by decide +kernel
theorem nl_86 : 86 ∉ lkL := by decide +kernel
theorem nl_87 : 87 ∉ lkL := by decide +kernel
theorem nl_88 : 88 ∉ lkL := by decide +kernel
theorem nl_89 : 89 ∉ lkL := by decide +kernel
theorem nl_90 : 90 ∉ lkL := by decide +kernel
theorem nl_91 : 91 ∉ lkL := by decide +kernel
theorem nl_92 : 92 ∉ lkL := by decide +kernel
theorem nl_93 : 93 ∉ lkL := by decide +kernel
theorem nl_94 : 94 ∉ lkL := by decide +kernel
theorem nl_95 : 95 ∉ lkL := by decide +kernel
theorem nl_96 : 96 ∉ lkL := by decide +kernel
theorem nl_97 : 97 ∉ lkL := by decide +kernel
theorem nl_99 : 99 ∉ lkL := by decide +kernel
theorem nl_101 : 101 ∉ lkL := by decide +kernel
theorem nl_103 : 103 ∉ lkL := by decide +kernel
theorem nl_105 : 105 ∉ lkL := by decide +kernel
theorem nl_107 : 107 ∉ lkL := by decide +kernel
theorem nl_109 : 109 ∉ lkL := by decide +kernel
theorem nl_111 : 111 ∉ lkL := by decide +kernel
theorem nl_200 : 200 ∉ lkL := by decide +kernel
theorem nl_201 : 201 ∉ lkL := by decide +kernel
theorem nl_202 : 202 ∉ lkL := by decide +kernel
theorem nl_205 : 205 ∉ lkL := by decide +kernel
theorem nl_206 : 206 ∉ lkL := by decide +kernel
theorem nl_207 : 207 ∉ lkL := by decide +kernel
theorem nl_208 : 208 ∉ lkL := by decide +kernel
theorem nl_209 : 209 ∉ lkL := by decide +kernel
theorem nl_210 : 210 ∉ lkL := by decide +kernel
theorem nl_212 : 212 ∉ lkL := by decide +kernel
theorem nl_213 : 213 ∉ lkL := by decide +kernel
theorem nl_214 : 214 ∉ lkL := by decide +kernel
theorem nl_216 : 216 ∉ lkL := by decide +kernel
theorem nl_218 : 218 ∉ lkL := by decide +kernel
theorem nl_220 : 220 ∉ lkL := by decide +kernel
theorem nl_221 : 221 ∉ lkL := by decide +kernel
theorem nl_222 : 222 ∉ lkL := by decide +kernel
theorem nl_223 : 223 ∉ lkL := by decide +kernel
theorem nl_224 : 224 ∉ lkL := by decide +kernel
theorem nl_226 : 226 ∉ lkL := by decide +kernel
theorem nl_228 : 228 ∉ lkL := by decide +kernel
theorem nl_229 : 229 ∉ lkL := by decide +kernel
theorem nl_230 : 230 ∉ lkL := by decide +kernel
theorem nl_231 : 231 ∉ lkL := by decide +kernel
theorem nl_233 : 233 ∉ lkL := by decide +kernel
theorem nl_234 : 234 ∉ lkL := by decide +kernel
theorem nl_235 : 235 ∉ lkL := by decide +kernel
theorem nl_236 : 236 ∉ lkL := by decide +kernel
theorem nl_237 : 237 ∉ lkL := by decide +kernel
theorem nl_239 : 239 ∉ lkL := by decide +kernel
theorem nl_240 : 240 ∉ lkL := by decide +kernel
theorem nl_241 : 241 ∉ lkL := by decide +kernel
theorem nl_242 : 242 ∉ lkL := by decide +kernel
theorem nl_243 : 243 ∉ lkL := by decide +kernel
theorem nl_244 : 244 ∉ lkL := by decide +kernel
theorem nl_245 : 245 ∉ lkL := by decide +kernel
theorem nl_246 : 246 ∉ lkL := by decide +kernel
theorem nl_247 : 247 ∉ lkL := by decide +kernel
theorem nl_248 : 248 ∉ lkL := by decide +kernel
theorem nl_249 : 249 ∉ lkL := by decide +kernel
theorem nl_250 : 250 ∉ lkL := by decide +kernel
theorem nl_251 : 251 ∉ lkL := by decide +kernel
theorem yl_98 : 98 ∈ lkL := by decide +kernel
theorem yl_100 : 100 ∈ lkL := by decide +kernel
theorem yl_102 : 102 ∈ lkL := by decide +kernel
theorem yl_104 : 104 ∈ lkL := by decide +kernel
theorem yl_106 : 106 ∈ lkL := by decide +kernel
theorem yl_108 : 108 ∈ lkL := by decide +kernel
theorem yl_110 : 110 ∈ lkL := by decide +kernel
theorem yl_112 : 112 ∈ lkL := by decide +kernel
theorem yl_203 : 203 ∈ lkL := by decide +kernel
theorem wa_Buyers_35 : WCP "WhiteElephants$Buyers" 35 := ⟨kk_1071, kk_468, kk_467, kk_15⟩
theorem wa_Hall_164 : WCP "WhiteElephants$Hall" 164 := ⟨kk_1082, kk_468, kk_467, kk_15⟩
theorem wa_Ladies_29 : WCP "WhiteElephants$Ladies" 29 := ⟨kk_1062, kk_468, kk_467, kk_15⟩
theorem wa_Laws_39 : WCP "WhiteElephants$Laws" 39 := ⟨kk_612, kk_468, kk_467, kk_15⟩
theorem wa_Sale_98 : WCP "WhiteElephants$Sale" 98 := ⟨kk_826, kk_468, kk_467, kk_15⟩
theorem wa_Secrets_61 : WCP "WhiteElephants$Secrets" 61 := ⟨kk_1081, kk_468, kk_467, kk_15⟩
theorem wa_Sightings_65 : WCP "WhiteElephants$Sightings" 65 := ⟨kk_1076, kk_468, kk_467, kk_15⟩
theorem wa_Things_98 : WCP "WhiteElephants$Things" 98 := ⟨kk_1057, kk_468, kk_467, kk_15⟩
theorem wa_X_103 : WCP "WhiteElephants" 103 := ⟨kk_466, kk_468, kk_467, kk_15⟩
theorem ws_Buyers_31 : WTN "WhiteElephants$Buyers" 31 my_X11_within mb_X11_within 3 ((some .boolean)) := ⟨by decide +kernel, kk_415, kk_1, kk_416⟩
theorem ws_Hall_100 : WV "WhiteElephants$Hall" 100 my_X3_part mb_X3_part 3 ((some .int)) := ⟨kk_722, kk_704, kk_705, kk_6, kk_706⟩
theorem ws_Hall_107 : WT "WhiteElephants$Hall" 107 my_J9_max_7cf53 mb_J9_max_7cf53 2 ((some .int)) := ⟨kk_723, kk_521, kk_17, kk_522⟩
theorem ws_Hall_11 : WIN "WhiteElephants$Hall" 11 my_X10_init mb_X10_init 1 := ⟨by decide +kernel, kk_63, kk_4, kk_64⟩
theorem ws_Hall_112 : WT "WhiteElephants$Hall" 112 my_J9_min_7cf53 mb_J9_min_7cf53 2 ((some .int)) := ⟨kk_724, kk_536, kk_17, kk_537⟩
theorem ws_Hall_118 : WV "WhiteElephants$Hall" 118 my_X10_isOfKinds mb_X10_isOfKinds 3 ((some .boolean)) := ⟨kk_737, kk_738, kk_739, kk_4, kk_740⟩
theorem ws_Hall_121 : WV "WhiteElephants$Hall" 121 my_X1_lostOn mb_X1_lostOn 4 ((some .int)) := ⟨kk_858, kk_713, kk_714, kk_3, kk_715⟩
theorem ws_Hall_127 : WV "WhiteElephants$Hall" 127 my_X1_priceBy mb_X1_priceBy 3 ((some .int)) := ⟨kk_741, kk_726, kk_727, kk_3, kk_728⟩
theorem ws_Hall_131 : WV "WhiteElephants$Hall" 131 my_X1_lostOnKinds mb_X1_lostOnKinds 5 ((some .int)) := ⟨kk_907, kk_855, kk_856, kk_3, kk_857⟩
theorem ws_Hall_134 : WT "WhiteElephants$Hall" 134 my_J6_bitCount_0f7a4 mb_J6_bitCount_0f7a4 1 ((some .int)) := ⟨kk_908, kk_508, kk_16, kk_509⟩
theorem ws_Hall_139 : WV "WhiteElephants$Hall" 139 my_X1_bestLady mb_X1_bestLady 7 ((some .int)) := ⟨kk_909, kk_911, (bw_at 14 (by decide +kernel) rfl), kk_3, kk_912⟩
theorem ws_Hall_142 : WV "WhiteElephants$Hall" 142 my_X1_lostWith mb_X1_lostWith 4 ((some .int)) := ⟨kk_913, kk_915, (bw_at 15 (by decide +kernel) rfl), kk_3, kk_916⟩
theorem ws_Hall_145 : WV "WhiteElephants$Hall" 145 my_X10_become mb_X10_become 2 ((none : Option Jvm.ClassFile.FieldType)) := ⟨kk_1053, kk_1054, kk_1055, kk_4, kk_1056⟩
theorem ws_Hall_149 : WV "WhiteElephants$Hall" 149 my_X2_become mb_X2_become 2 ((none : Option Jvm.ClassFile.FieldType)) := ⟨kk_1058, kk_1059, kk_1060, kk_5, kk_1061⟩
theorem ws_Hall_152 : WV "WhiteElephants$Hall" 152 my_X3_become mb_X3_become 2 ((none : Option Jvm.ClassFile.FieldType)) := ⟨kk_1063, kk_1064, kk_1065, kk_6, kk_1066⟩
theorem ws_Hall_155 : WV "WhiteElephants$Hall" 155 my_X0_become mb_X0_become 2 ((none : Option Jvm.ClassFile.FieldType)) := ⟨kk_1067, kk_1068, kk_1069, kk_7, kk_1070⟩
theorem ws_Hall_158 : WV "WhiteElephants$Hall" 158 my_X8_become mb_X8_become 2 ((none : Option Jvm.ClassFile.FieldType)) := ⟨kk_1072, kk_1073, kk_1074, kk_8, kk_1075⟩
theorem ws_Hall_161 : WV "WhiteElephants$Hall" 161 my_X6_become mb_X6_become 2 ((none : Option Jvm.ClassFile.FieldType)) := ⟨kk_1077, kk_1078, kk_1079, kk_9, kk_1080⟩
theorem ws_Hall_20 : WIN "WhiteElephants$Hall" 20 my_X2_init mb_X2_init 1 := ⟨by decide +kernel, kk_113, kk_5, kk_114⟩
theorem ws_Hall_27 : WIN "WhiteElephants$Hall" 27 my_X3_init mb_X3_init 1 := ⟨by decide +kernel, kk_138, kk_6, kk_139⟩
theorem ws_Hall_34 : WIN "WhiteElephants$Hall" 34 my_X0_init mb_X0_init 1 := ⟨by decide +kernel, kk_156, kk_7, kk_157⟩
theorem ws_Hall_41 : WIN "WhiteElephants$Hall" 41 my_X8_init mb_X8_init 1 := ⟨by decide +kernel, kk_193, kk_8, kk_194⟩
theorem ws_Hall_48 : WIN "WhiteElephants$Hall" 48 my_X6_init mb_X6_init 1 := ⟨by decide +kernel, kk_225, kk_9, kk_226⟩
theorem ws_Hall_79 : WV "WhiteElephants$Hall" 79 my_X10_trueWorth mb_X10_trueWorth 2 ((some .int)) := ⟨kk_716, kk_524, kk_525, kk_4, kk_526⟩
theorem ws_Hall_83 : WV "WhiteElephants$Hall" 83 my_X1_priceOf mb_X1_priceOf 7 ((some .int)) := ⟨kk_717, kk_719, (bw_at 10 (by decide +kernel) rfl), kk_3, kk_720⟩
theorem ws_Hall_96 : WTN "WhiteElephants$Hall" 96 my_X11_hasBit mb_X11_hasBit 2 ((some .boolean)) := ⟨by decide +kernel, kk_514, kk_1, kk_515⟩
theorem ws_L_102 : WV "WhiteElephantsLaw" 102 my_X12_mark mb_X12_mark 4 ((some .int)) := ⟨kk_1429, kk_1430, kk_1431, kk_13, kk_1432⟩
theorem ws_L_103 : WV "WhiteElephantsLaw" 103 my_X11_buyer mb_X11_buyer 5 ((some .int)) := ⟨kk_750, kk_751, kk_752, kk_1, kk_753⟩
theorem ws_L_107 : WV "WhiteElephantsLaw" 107 my_X12_buyer mb_X12_buyer 5 ((some .int)) := ⟨kk_1433, kk_1434, kk_1435, kk_13, kk_1436⟩
theorem ws_L_108 : WV "WhiteElephantsLaw" 108 my_X11_buyerOf mb_X11_buyerOf 3 ((some .int)) := ⟨kk_761, kk_762, kk_763, kk_1, kk_764⟩
theorem ws_L_111 : WV "WhiteElephantsLaw" 111 my_X12_buyerOf mb_X12_buyerOf 3 ((some .int)) := ⟨kk_1441, kk_1442, kk_1443, kk_13, kk_1444⟩
theorem ws_L_112 : WV "WhiteElephantsLaw" 112 my_X11_turn mb_X11_turn 4 ((some .int)) := ⟨kk_770, kk_771, kk_772, kk_1, kk_773⟩
theorem ws_L_115 : WV "WhiteElephantsLaw" 115 my_X12_turn mb_X12_turn 4 ((some .int)) := ⟨kk_1449, kk_1450, kk_1451, kk_13, kk_1452⟩
theorem ws_L_116 : WV "WhiteElephantsLaw" 116 my_X11_costs mb_X11_costs 3 ((some .int)) := ⟨kk_774, kk_775, kk_776, kk_1, kk_777⟩
theorem ws_L_119 : WV "WhiteElephantsLaw" 119 my_X12_costs mb_X12_costs 3 ((some .int)) := ⟨kk_1453, kk_1454, kk_1455, kk_13, kk_1456⟩
theorem ws_L_12 : WI "WhiteElephantsLaw" 12 my_X12_init mb_X12_init 2 := ⟨kk_1097, kk_1098, kk_13, kk_1099⟩
theorem ws_L_120 : WV "WhiteElephantsLaw" 120 my_X11_takes mb_X11_takes 3 ((some .int)) := ⟨kk_784, kk_785, kk_786, kk_1, kk_787⟩
theorem ws_L_123 : WV "WhiteElephantsLaw" 123 my_X12_takes mb_X12_takes 3 ((some .int)) := ⟨kk_1461, kk_1462, kk_1463, kk_13, kk_1464⟩
theorem ws_L_124 : WV "WhiteElephantsLaw" 124 my_X11_takings mb_X11_takings 3 ((some .int)) := ⟨kk_809, kk_810, kk_811, kk_1, kk_812⟩
theorem ws_L_127 : WV "WhiteElephantsLaw" 127 my_X12_takings mb_X12_takings 3 ((some .int)) := ⟨kk_1473, kk_1474, kk_1475, kk_13, kk_1476⟩
theorem ws_L_128 : WV "WhiteElephantsLaw" 128 my_X11_best mb_X11_best 1 ((some .int)) := ⟨kk_827, kk_828, kk_829, kk_1, kk_830⟩
theorem ws_L_13 : WV "WhiteElephantsLaw" 13 my_X11_row mb_X11_row 4 ((some .int)) := ⟨kk_407, kk_408, kk_409, kk_1, kk_410⟩
theorem ws_L_131 : WV "WhiteElephantsLaw" 131 my_X12_best mb_X12_best 6 ((some .int)) := ⟨kk_1481, kk_1482, kk_1483, kk_13, kk_1484⟩
theorem ws_L_132 : WV "WhiteElephantsLaw" 132 my_X11_judge mb_X11_judge 4 ((some .int)) := ⟨kk_836, kk_837, kk_838, kk_1, kk_839⟩
theorem ws_L_135 : WV "WhiteElephantsLaw" 135 my_X12_judge mb_X12_judge 9 ((some .int)) := ⟨kk_1485, kk_1486, kk_1487, kk_13, kk_1488⟩
theorem ws_L_136 : WV "WhiteElephantsLaw" 136 my_X11_rest mb_X11_rest 2 ((some .int)) := ⟨kk_841, kk_842, kk_843, kk_1, kk_844⟩
theorem ws_L_139 : WV "WhiteElephantsLaw" 139 my_X12_rest mb_X12_rest 4 ((some .int)) := ⟨kk_1489, kk_1490, kk_1491, kk_13, kk_1492⟩
theorem ws_L_140 : WV "WhiteElephantsLaw" 140 my_X11_loses mb_X11_loses 3 ((some .int)) := ⟨kk_850, kk_851, kk_852, kk_1, kk_853⟩
theorem ws_L_143 : WV "WhiteElephantsLaw" 143 my_X12_loses mb_X12_loses 3 ((some .int)) := ⟨kk_1493, kk_1494, kk_1495, kk_13, kk_1496⟩
theorem ws_L_144 : WV "WhiteElephantsLaw" 144 my_X11_go mb_X11_go 5 ((some .int)) := ⟨kk_859, kk_860, kk_861, kk_1, kk_862⟩
theorem ws_L_147 : WV "WhiteElephantsLaw" 147 my_X12_go mb_X12_go 8 ((some .int)) := ⟨kk_1501, kk_1502, kk_1503, kk_13, kk_1504⟩
theorem ws_L_148 : WV "WhiteElephantsLaw" 148 my_X11_day mb_X11_day 2 ((some .int)) := ⟨kk_869, kk_870, kk_871, kk_1, kk_872⟩
theorem ws_L_151 : WV "WhiteElephantsLaw" 151 my_X12_day mb_X12_day 2 ((some .int)) := ⟨kk_1505, kk_1506, kk_1507, kk_13, kk_1508⟩
theorem ws_L_152 : WV "WhiteElephantsLaw" 152 my_X11_morning mb_X11_morning 2 ((some .int)) := ⟨kk_877, kk_878, kk_879, kk_1, kk_880⟩
theorem ws_L_155 : WV "WhiteElephantsLaw" 155 my_X12_morning mb_X12_morning 2 ((some .int)) := ⟨kk_1513, kk_1514, kk_1515, kk_13, kk_1516⟩
theorem ws_L_156 : WV "WhiteElephantsLaw" 156 my_X11_shown mb_X11_shown 2 ((some .int)) := ⟨kk_881, kk_882, kk_883, kk_1, kk_884⟩
theorem ws_L_159 : WV "WhiteElephantsLaw" 159 my_X12_shown mb_X12_shown 8 ((some .int)) := ⟨kk_1517, kk_1518, kk_1519, kk_13, kk_1520⟩
theorem ws_L_160 : WV "WhiteElephantsLaw" 160 my_X11_table mb_X11_table 2 ((some .int)) := ⟨kk_895, kk_896, kk_897, kk_1, kk_898⟩
theorem ws_L_163 : WV "WhiteElephantsLaw" 163 my_X12_table mb_X12_table 2 ((some .int)) := ⟨kk_1521, kk_1522, kk_1523, kk_13, kk_1524⟩
theorem ws_L_164 : WV "WhiteElephantsLaw" 164 my_X11_who mb_X11_who 2 ((some .int)) := ⟨kk_899, kk_900, kk_901, kk_1, kk_902⟩
theorem ws_L_167 : WV "WhiteElephantsLaw" 167 my_X12_who mb_X12_who 13 ((some .int)) := ⟨kk_1525, kk_1526, kk_1527, kk_13, kk_1528⟩
theorem ws_L_168 : WV "WhiteElephantsLaw" 168 my_X11_sight mb_X11_sight 5 ((some .int)) := ⟨kk_921, kk_922, kk_923, kk_1, kk_924⟩
theorem ws_L_17 : WV "WhiteElephantsLaw" 17 my_X12_row mb_X12_row 5 ((some .int)) := ⟨kk_1256, kk_1257, kk_1258, kk_13, kk_1259⟩
theorem ws_L_171 : WV "WhiteElephantsLaw" 171 my_X12_sight mb_X12_sight 5 ((some .int)) := ⟨kk_1529, kk_1530, kk_1531, kk_13, kk_1532⟩
theorem ws_L_172 : WV "WhiteElephantsLaw" 172 my_X11_same mb_X11_same 3 ((some .int)) := ⟨kk_935, kk_936, kk_937, kk_1, kk_938⟩
theorem ws_L_175 : WV "WhiteElephantsLaw" 175 my_X12_same mb_X12_same 3 ((some .int)) := ⟨kk_1537, kk_1538, kk_1539, kk_13, kk_1540⟩
theorem ws_L_176 : WV "WhiteElephantsLaw" 176 my_X11_vases mb_X11_vases 1 ((some .int)) := ⟨kk_948, kk_949, kk_950, kk_1, kk_951⟩
theorem ws_L_179 : WV "WhiteElephantsLaw" 179 my_X12_vases mb_X12_vases 3 ((some .int)) := ⟨kk_1545, kk_1546, kk_1547, kk_13, kk_1548⟩
theorem ws_L_180 : WV "WhiteElephantsLaw" 180 my_X11_longest mb_X11_longest 1 ((some .int)) := ⟨kk_963, kk_964, kk_965, kk_1, kk_966⟩
theorem ws_L_183 : WV "WhiteElephantsLaw" 183 my_X12_longest mb_X12_longest 5 ((some .int)) := ⟨kk_1553, kk_1554, kk_1555, kk_13, kk_1556⟩
theorem ws_L_184 : WV "WhiteElephantsLaw" 184 my_X11_secret mb_X11_secret 3 ((some .int)) := ⟨kk_976, kk_977, kk_978, kk_1, kk_979⟩
theorem ws_L_187 : WV "WhiteElephantsLaw" 187 my_X12_secret mb_X12_secret 3 ((some .int)) := ⟨kk_1557, kk_1558, kk_1559, kk_13, kk_1560⟩
theorem ws_L_188 : WV "WhiteElephantsLaw" 188 my_X11_looks mb_X11_looks 4 ((some .int)) := ⟨kk_984, kk_985, kk_986, kk_1, kk_987⟩
theorem ws_L_191 : WV "WhiteElephantsLaw" 191 my_X12_looks mb_X12_looks 4 ((some .int)) := ⟨kk_1561, kk_1562, kk_1563, kk_13, kk_1564⟩
theorem ws_L_192 : WV "WhiteElephantsLaw" 192 my_X11_laid mb_X11_laid 3 ((some .int)) := ⟨kk_988, kk_989, kk_990, kk_1, kk_991⟩
theorem ws_L_195 : WV "WhiteElephantsLaw" 195 my_X12_laid mb_X12_laid 6 ((some .int)) := ⟨kk_1565, kk_1566, kk_1567, kk_13, kk_1568⟩
theorem ws_L_196 : WV "WhiteElephantsLaw" 196 my_X11_shortBy mb_X11_shortBy 2 ((some .int)) := ⟨kk_1014, kk_1015, kk_1016, kk_1, kk_1017⟩
theorem ws_L_199 : WV "WhiteElephantsLaw" 199 my_X12_shortBy mb_X12_shortBy 8 ((some .int)) := ⟨kk_1573, kk_1574, kk_1575, kk_13, kk_1576⟩
theorem ws_L_20 : WV "WhiteElephantsLaw" 20 my_X11_set mb_X11_set 6 ((some .int)) := ⟨kk_428, kk_429, kk_430, kk_1, kk_431⟩
theorem ws_L_200 : WV "WhiteElephantsLaw" 200 my_X11_hall mb_X11_hall 3 ((some .int)) := ⟨kk_1029, kk_1030, kk_1031, kk_1, kk_1032⟩
theorem ws_L_203 : WV "WhiteElephantsLaw" 203 my_X12_hall mb_X12_hall 5 ((some .int)) := ⟨kk_1578, kk_1579, kk_1580, kk_13, kk_1581⟩
theorem ws_L_204 : WV "WhiteElephantsLaw" 204 my_X11_image mb_X11_image 1 ((some .int)) := ⟨kk_1045, kk_1046, kk_1047, kk_1, kk_1048⟩
theorem ws_L_207 : WV "WhiteElephantsLaw" 207 my_X12_image mb_X12_image 1 ((some .int)) := ⟨kk_1586, kk_1587, kk_1588, kk_13, kk_1589⟩
theorem ws_L_208 : WV "WhiteElephantsLaw" 208 my_X11_back mb_X11_back 2 ((some .int)) := ⟨kk_1083, kk_1084, kk_1085, kk_1, kk_1086⟩
theorem ws_L_211 : WV "WhiteElephantsLaw" 211 my_X12_back mb_X12_back 2 ((some .int)) := ⟨kk_1598, kk_1599, kk_1600, kk_13, kk_1601⟩
theorem ws_L_212 : WV "WhiteElephantsLaw" 212 my_X11_status mb_X11_status 2 ((some .int)) := ⟨kk_1087, kk_1088, kk_1089, kk_1, kk_1090⟩
theorem ws_L_215 : WV "WhiteElephantsLaw" 215 my_X12_status mb_X12_status 4 ((some .int)) := ⟨kk_1602, kk_1603, kk_1604, kk_13, kk_1605⟩
theorem ws_L_24 : WV "WhiteElephantsLaw" 24 my_X12_set mb_X12_set 9 ((some .int)) := ⟨kk_1268, kk_1269, kk_1270, kk_13, kk_1271⟩
theorem ws_L_25 : WV "WhiteElephantsLaw" 25 my_X11_copy mb_X11_copy 8 ((some .int)) := ⟨kk_457, kk_458, kk_459, kk_1, kk_460⟩
theorem ws_L_29 : WV "WhiteElephantsLaw" 29 my_X12_copy mb_X12_copy 7 ((some .int)) := ⟨kk_1280, kk_1281, kk_1282, kk_13, kk_1283⟩
theorem ws_L_30 : WV "WhiteElephantsLaw" 30 my_X11_element mb_X11_element 3 ((some .long)) := ⟨kk_469, kk_470, kk_471, kk_1, kk_472⟩
theorem ws_L_34 : WV "WhiteElephantsLaw" 34 my_X12_element mb_X12_element 3 ((some .long)) := ⟨kk_1288, kk_1289, kk_1290, kk_13, kk_1291⟩
theorem ws_L_35 : WV "WhiteElephantsLaw" 35 my_X11_holds mb_X11_holds 2 ((some .int)) := ⟨kk_477, kk_478, kk_479, kk_1, kk_480⟩
theorem ws_L_39 : WV "WhiteElephantsLaw" 39 my_X12_holds mb_X12_holds 2 ((some .int)) := ⟨kk_1292, kk_1293, kk_1294, kk_13, kk_1295⟩
theorem ws_L_40 : WV "WhiteElephantsLaw" 40 my_X11_show mb_X11_show 3 ((some .int)) := ⟨kk_481, kk_482, kk_483, kk_1, kk_484⟩
theorem ws_L_44 : WV "WhiteElephantsLaw" 44 my_X12_show mb_X12_show 3 ((some .int)) := ⟨kk_1296, kk_1297, kk_1298, kk_13, kk_1299⟩
theorem ws_L_45 : WV "WhiteElephantsLaw" 45 my_X11_says mb_X11_says 5 ((some .int)) := ⟨kk_490, kk_491, kk_492, kk_1, kk_493⟩
theorem ws_L_48 : WV "WhiteElephantsLaw" 48 my_X12_says mb_X12_says 4 ((some .int)) := ⟨kk_1304, kk_1305, kk_1306, kk_13, kk_1307⟩
theorem ws_L_49 : WV "WhiteElephantsLaw" 49 my_X11_thing mb_X11_thing 4 ((some .int)) := ⟨kk_538, kk_539, kk_540, kk_1, kk_541⟩
theorem ws_L_52 : WV "WhiteElephantsLaw" 52 my_X12_thing mb_X12_thing 5 ((some .int)) := ⟨kk_1328, kk_1329, kk_1330, kk_13, kk_1331⟩
theorem ws_L_53 : WV "WhiteElephantsLaw" 53 my_X11_things mb_X11_things 9 ((some .int)) := ⟨kk_546, kk_547, kk_548, kk_1, kk_549⟩
theorem ws_L_56 : WV "WhiteElephantsLaw" 56 my_X12_things mb_X12_things 8 ((some .int)) := ⟨kk_1332, kk_1333, kk_1334, kk_13, kk_1335⟩
theorem ws_L_57 : WV "WhiteElephantsLaw" 57 my_X11_thingOf mb_X11_thingOf 3 ((some .int)) := ⟨kk_551, kk_552, kk_553, kk_1, kk_554⟩
theorem ws_L_60 : WV "WhiteElephantsLaw" 60 my_X12_thingOf mb_X12_thingOf 3 ((some .int)) := ⟨kk_1338, kk_1339, kk_1340, kk_13, kk_1341⟩
theorem ws_L_61 : WV "WhiteElephantsLaw" 61 my_X11_chip mb_X11_chip 3 ((some .int)) := ⟨kk_556, kk_557, kk_558, kk_1, kk_559⟩
theorem ws_L_64 : WV "WhiteElephantsLaw" 64 my_X12_chip mb_X12_chip 3 ((some .int)) := ⟨kk_1342, kk_1343, kk_1344, kk_13, kk_1345⟩
theorem ws_L_65 : WV "WhiteElephantsLaw" 65 my_X11_lady mb_X11_lady 3 ((some .int)) := ⟨kk_561, kk_562, kk_563, kk_1, kk_564⟩
theorem ws_L_68 : WV "WhiteElephantsLaw" 68 my_X12_lady mb_X12_lady 3 ((some .int)) := ⟨kk_1346, kk_1347, kk_1348, kk_13, kk_1349⟩
theorem ws_L_69 : WV "WhiteElephantsLaw" 69 my_X11_goes mb_X11_goes 4 ((some .int)) := ⟨kk_572, kk_573, kk_574, kk_1, kk_575⟩
theorem ws_L_72 : WV "WhiteElephantsLaw" 72 my_X12_goes mb_X12_goes 4 ((some .int)) := ⟨kk_1354, kk_1355, kk_1356, kk_13, kk_1357⟩
theorem ws_L_73 : WV "WhiteElephantsLaw" 73 my_X11_feed mb_X11_feed 3 ((some .int)) := ⟨kk_586, kk_587, kk_588, kk_1, kk_589⟩
theorem ws_L_76 : WV "WhiteElephantsLaw" 76 my_X12_feed mb_X12_feed 4 ((some .int)) := ⟨kk_1366, kk_1367, kk_1368, kk_13, kk_1369⟩
theorem ws_L_77 : WV "WhiteElephantsLaw" 77 my_X11_wipe mb_X11_wipe 2 ((some .int)) := ⟨kk_594, kk_595, kk_596, kk_1, kk_597⟩
theorem ws_L_81 : WV "WhiteElephantsLaw" 81 my_X12_wipe mb_X12_wipe 2 ((some .int)) := ⟨kk_1370, kk_1371, kk_1372, kk_13, kk_1373⟩
theorem ws_L_82 : WV "WhiteElephantsLaw" 82 my_X11_law mb_X11_law 2 ((some .int)) := ⟨kk_598, kk_599, kk_600, kk_1, kk_601⟩
theorem ws_L_85 : WV "WhiteElephantsLaw" 85 my_X12_law mb_X12_law 2 ((some .int)) := ⟨kk_1374, kk_1375, kk_1376, kk_13, kk_1377⟩
theorem ws_L_86 : WV "WhiteElephantsLaw" 86 my_X11_lawOf mb_X11_lawOf 3 ((some .int)) := ⟨kk_699, kk_700, kk_701, kk_1, kk_702⟩
theorem ws_L_89 : WV "WhiteElephantsLaw" 89 my_X12_lawOf mb_X12_lawOf 3 ((some .int)) := ⟨kk_1409, kk_1410, kk_1411, kk_13, kk_1412⟩
theorem ws_L_9 : WI "WhiteElephantsLaw" 9 my_X11_init mb_X11_init 2 := ⟨kk_24, kk_25, kk_1, kk_26⟩
theorem ws_L_90 : WV "WhiteElephantsLaw" 90 my_X11_thinks mb_X11_thinks 4 ((some .int)) := ⟨kk_708, kk_709, kk_710, kk_1, kk_711⟩
theorem ws_L_94 : WV "WhiteElephantsLaw" 94 my_X12_thinks mb_X12_thinks 4 ((some .int)) := ⟨kk_1413, kk_1414, kk_1415, kk_13, kk_1416⟩
theorem ws_L_95 : WV "WhiteElephantsLaw" 95 my_X11_price mb_X11_price 3 ((some .int)) := ⟨kk_729, kk_730, kk_731, kk_1, kk_732⟩
theorem ws_L_98 : WV "WhiteElephantsLaw" 98 my_X12_price mb_X12_price 5 ((some .int)) := ⟨kk_1425, kk_1426, kk_1427, kk_13, kk_1428⟩
theorem ws_L_99 : WV "WhiteElephantsLaw" 99 my_X11_mark mb_X11_mark 4 ((some .int)) := ⟨kk_742, kk_743, kk_744, kk_1, kk_745⟩
theorem ws_Ladies_25 : WTN "WhiteElephants$Ladies" 25 my_X11_within mb_X11_within 3 ((some .boolean)) := ⟨by decide +kernel, kk_415, kk_1, kk_416⟩
theorem ws_Laws_28 : WTN "WhiteElephants$Laws" 28 my_X11_within mb_X11_within 3 ((some .boolean)) := ⟨by decide +kernel, kk_415, kk_1, kk_416⟩
theorem ws_Laws_32 : WV "WhiteElephants$Laws" 32 my_X3_has mb_X3_has 2 ((some .boolean)) := ⟨kk_707, kk_582, kk_583, kk_6, kk_584⟩
theorem ws_M_148 : WV "WhiteElephantsModel" 148 my_X12_isShelf mb_X12_isShelf 2 ((some .boolean)) := ⟨kk_1260, kk_1262, (bw_at 23 (by decide +kernel) rfl), kk_13, kk_1263⟩
theorem ws_M_152 : WV "WhiteElephantsModel" 152 my_X12_no mb_X12_no 2 ((some .int)) := ⟨kk_1264, kk_1266, (bw_at 24 (by decide +kernel) rfl), kk_13, kk_1267⟩
theorem ws_M_156 : WV "WhiteElephantsModel" 156 my_X12_holdsThing mb_X12_holdsThing 2 ((some .boolean)) := ⟨kk_1276, kk_1278, (bw_at 26 (by decide +kernel) rfl), kk_13, kk_1279⟩
theorem ws_M_159 : WV "WhiteElephantsModel" 159 my_X12_noRow mb_X12_noRow 2 ((some .int)) := ⟨kk_1272, kk_1274, (bw_at 25 (by decide +kernel) rfl), kk_13, kk_1275⟩
theorem ws_M_162 : WV "WhiteElephantsModel" 162 my_X12_isRow mb_X12_isRow 2 ((some .boolean)) := ⟨kk_1284, kk_1286, (bw_at 27 (by decide +kernel) rfl), kk_13, kk_1287⟩
theorem ws_M_165 : WV "WhiteElephantsModel" 165 my_X12_isThing mb_X12_isThing 2 ((some .boolean)) := ⟨kk_1300, kk_1302, (bw_at 28 (by decide +kernel) rfl), kk_13, kk_1303⟩
theorem ws_M_168 : WV "WhiteElephantsModel" 168 my_X12_isKind mb_X12_isKind 2 ((some .boolean)) := ⟨kk_1308, kk_1310, (bw_at 29 (by decide +kernel) rfl), kk_13, kk_1311⟩
theorem ws_M_171 : WV "WhiteElephantsModel" 171 my_X12_isUnder mb_X12_isUnder 3 ((some .boolean)) := ⟨kk_1312, kk_1314, (bw_at 30 (by decide +kernel) rfl), kk_13, kk_1315⟩
theorem ws_M_175 : WV "WhiteElephantsModel" 175 my_X12_trueWorth mb_X12_trueWorth 5 ((some .int)) := ⟨kk_1316, kk_1318, (bw_at 31 (by decide +kernel) rfl), kk_13, kk_1319⟩
theorem ws_M_178 : WV "WhiteElephantsModel" 178 my_X12_chipsOf mb_X12_chipsOf 4 ((some .int)) := ⟨kk_1320, kk_1322, (bw_at 32 (by decide +kernel) rfl), kk_13, kk_1323⟩
theorem ws_M_181 : WV "WhiteElephantsModel" 181 my_X12_isOf mb_X12_isOf 3 ((some .boolean)) := ⟨kk_1324, kk_1326, (bw_at 33 (by decide +kernel) rfl), kk_13, kk_1327⟩
theorem ws_M_186 : WV "WhiteElephantsModel" 186 my_X12_thing mb_X12_thing 5 ((some .int)) := ⟨kk_1337, kk_1329, kk_1330, kk_13, kk_1331⟩
theorem ws_M_190 : WV "WhiteElephantsModel" 190 my_X12_areKinds mb_X12_areKinds 2 ((some .boolean)) := ⟨kk_1350, kk_1352, (bw_at 34 (by decide +kernel) rfl), kk_13, kk_1353⟩
theorem ws_M_193 : WV "WhiteElephantsModel" 193 my_X12_isLady mb_X12_isLady 2 ((some .boolean)) := ⟨kk_1358, kk_1360, (bw_at 35 (by decide +kernel) rfl), kk_13, kk_1361⟩
theorem ws_M_196 : WV "WhiteElephantsModel" 196 my_X12_isLaw mb_X12_isLaw 2 ((some .boolean)) := ⟨kk_1362, kk_1364, (bw_at 36 (by decide +kernel) rfl), kk_13, kk_1365⟩
theorem ws_M_204 : WV "WhiteElephantsModel" 204 my_X12_is mb_X12_is 5 ((some .boolean)) := ⟨kk_1391, kk_1393, (bw_at 40 (by decide +kernel) rfl), kk_13, kk_1394⟩
theorem ws_M_216 : WV "WhiteElephantsModel" 216 my_J0_length_8abf5 mb_J0_length_8abf5 1 ((some .int)) := ⟨kk_1395, kk_633, kk_634, kk_18, kk_635⟩
theorem ws_M_222 : WV "WhiteElephantsModel" 222 my_J0_charAt_5068e mb_J0_charAt_5068e 2 ((some .char)) := ⟨kk_1396, kk_643, kk_644, kk_18, kk_645⟩
theorem ws_M_226 : WV "WhiteElephantsModel" 226 my_X12_isLetter mb_X12_isLetter 2 ((some .boolean)) := ⟨kk_1382, kk_1384, (bw_at 38 (by decide +kernel) rfl), kk_13, kk_1385⟩
theorem ws_M_229 : WV "WhiteElephantsModel" 229 my_X12_wordAt mb_X12_wordAt 3 ((some .int)) := ⟨kk_1386, kk_1388, (bw_at 39 (by decide +kernel) rfl), kk_13, kk_1389⟩
theorem ws_M_233 : WV "WhiteElephantsModel" 233 my_X12_isDigit mb_X12_isDigit 2 ((some .boolean)) := ⟨kk_1401, kk_1403, (bw_at 41 (by decide +kernel) rfl), kk_13, kk_1404⟩
theorem ws_M_236 : WV "WhiteElephantsModel" 236 my_X12_mayBe mb_X12_mayBe 3 ((some .boolean)) := ⟨kk_1405, kk_1407, (bw_at 42 (by decide +kernel) rfl), kk_13, kk_1408⟩
theorem ws_M_239 : WV "WhiteElephantsModel" 239 my_X12_read mb_X12_read 7 ((some .int)) := ⟨kk_1378, kk_1380, (bw_at 37 (by decide +kernel) rfl), kk_13, kk_1381⟩
theorem ws_M_242 : WV "WhiteElephantsModel" 242 my_X12_priceBy mb_X12_priceBy 10 ((some .int)) := ⟨kk_1421, kk_1423, (bw_at 44 (by decide +kernel) rfl), kk_13, kk_1424⟩
theorem ws_M_245 : WV "WhiteElephantsModel" 245 my_X12_lostBy mb_X12_lostBy 4 ((some .int)) := ⟨kk_1417, kk_1419, (bw_at 43 (by decide +kernel) rfl), kk_13, kk_1420⟩
theorem ws_M_248 : WV "WhiteElephantsModel" 248 my_X12_isHour mb_X12_isHour 2 ((some .boolean)) := ⟨kk_1437, kk_1439, (bw_at 45 (by decide +kernel) rfl), kk_13, kk_1440⟩
theorem ws_M_251 : WV "WhiteElephantsModel" 251 my_X12_isBuyer mb_X12_isBuyer 2 ((some .boolean)) := ⟨kk_1445, kk_1447, (bw_at 46 (by decide +kernel) rfl), kk_13, kk_1448⟩
theorem ws_M_254 : WV "WhiteElephantsModel" 254 my_X12_costIn mb_X12_costIn 5 ((some .int)) := ⟨kk_1457, kk_1459, (bw_at 47 (by decide +kernel) rfl), kk_13, kk_1460⟩
theorem ws_M_258 : WV "WhiteElephantsModel" 258 my_X12_asNow mb_X12_asNow 2 ((none : Option Jvm.ClassFile.FieldType)) := ⟨kk_1465, kk_1467, (bw_at 48 (by decide +kernel) rfl), kk_13, kk_1468⟩
theorem ws_M_261 : WV "WhiteElephantsModel" 261 my_X12_choice mb_X12_choice 10 ((some .int)) := ⟨kk_1469, kk_1471, (bw_at 49 (by decide +kernel) rfl), kk_13, kk_1472⟩
theorem ws_M_264 : WV "WhiteElephantsModel" 264 my_X12_wholeDay mb_X12_wholeDay 8 ((some .int)) := ⟨kk_1477, kk_1479, (bw_at 50 (by decide +kernel) rfl), kk_13, kk_1480⟩
theorem ws_M_267 : WV "WhiteElephantsModel" 267 my_X12_lostOver mb_X12_lostOver 5 ((some .int)) := ⟨kk_1497, kk_1499, (bw_at 51 (by decide +kernel) rfl), kk_13, kk_1500⟩
theorem ws_M_270 : WV "WhiteElephantsModel" 270 my_X12_sold mb_X12_sold 3 ((some .int)) := ⟨kk_1509, kk_1511, (bw_at 52 (by decide +kernel) rfl), kk_13, kk_1512⟩
theorem ws_M_276 : WV "WhiteElephantsModel" 276 my_X12_isPerson mb_X12_isPerson 2 ((some .boolean)) := ⟨kk_1533, kk_1535, (bw_at 53 (by decide +kernel) rfl), kk_13, kk_1536⟩
theorem ws_M_282 : WV "WhiteElephantsModel" 282 my_X12_mayBecome mb_X12_mayBecome 3 ((some .boolean)) := ⟨kk_1541, kk_1543, (bw_at 54 (by decide +kernel) rfl), kk_13, kk_1544⟩
theorem ws_M_285 : WV "WhiteElephantsModel" 285 my_X12_follow mb_X12_follow 9 ((some .boolean)) := ⟨kk_1549, kk_1551, (bw_at 55 (by decide +kernel) rfl), kk_13, kk_1552⟩
theorem ws_M_291 : WV "WhiteElephantsModel" 291 my_X12_fits mb_X12_fits 5 ((some .boolean)) := ⟨kk_1569, kk_1571, (bw_at 56 (by decide +kernel) rfl), kk_13, kk_1572⟩
theorem ws_M_299 : WV "WhiteElephantsModel" 299 my_X12_finest mb_X12_finest 4 ((some .int)) := ⟨kk_1582, kk_1584, (bw_at 57 (by decide +kernel) rfl), kk_13, kk_1585⟩
theorem ws_M_302 : WV "WhiteElephantsModel" 302 my_X12_move mb_X12_move 5 ((some .int)) := ⟨kk_1594, kk_1596, (bw_at 59 (by decide +kernel) rfl), kk_13, kk_1597⟩
theorem ws_M_306 : WV "WhiteElephantsModel" 306 my_X12_moveAll mb_X12_moveAll 3 ((none : Option Jvm.ClassFile.FieldType)) := ⟨kk_1590, kk_1592, (bw_at 58 (by decide +kernel) rfl), kk_13, kk_1593⟩
theorem ws_Picks_24 : WV "WhiteElephants$Picks" 24 my_X10_isOffered mb_X10_isOffered 2 ((some .boolean)) := ⟨kk_889, kk_793, kk_794, kk_4, kk_795⟩
theorem ws_Picks_31 : WV "WhiteElephants$Picks" 31 my_X10_trueWorth mb_X10_trueWorth 2 ((some .int)) := ⟨kk_890, kk_524, kk_525, kk_4, kk_526⟩
theorem ws_Picks_38 : WV "WhiteElephants$Picks" 38 my_X4_addBargain mb_X4_addBargain 6 ((none : Option Jvm.ClassFile.FieldType)) := ⟨kk_891, kk_893, (bw_at 13 (by decide +kernel) rfl), kk_11, kk_894⟩
theorem ws_Picks_42 : WV "WhiteElephants$Picks" 42 my_X10_isSold mb_X10_isSold 2 ((some .boolean)) := ⟨kk_1022, kk_747, kk_748, kk_4, kk_749⟩
theorem ws_Picks_48 : WT "WhiteElephants$Picks" 48 my_J9_min_7cf53 mb_J9_min_7cf53 2 ((some .int)) := ⟨kk_1023, kk_536, kk_17, kk_537⟩
theorem ws_Picks_54 : WV "WhiteElephants$Picks" 54 my_X4_addPaid mb_X4_addPaid 7 ((none : Option Jvm.ClassFile.FieldType)) := ⟨kk_1024, kk_1026, (bw_at 20 (by decide +kernel) rfl), kk_11, kk_1027⟩
theorem ws_Picks_58 : WT "WhiteElephants$Picks" 58 my_J6_bitCount_0f7a4 mb_J6_bitCount_0f7a4 1 ((some .int)) := ⟨kk_1028, kk_508, kk_16, kk_509⟩
theorem ws_Sale_104 : WV "WhiteElephants$Sale" 104 my_X5_open mb_X5_open 6 ((none : Option Jvm.ClassFile.FieldType)) := ⟨kk_817, kk_789, kk_790, kk_10, kk_791⟩
theorem ws_Sale_108 : WV "WhiteElephants$Sale" 108 my_X5_playHour mb_X5_playHour 7 ((some .int)) := ⟨kk_818, kk_819, kk_820, kk_10, kk_821⟩
theorem ws_Sale_112 : WV "WhiteElephants$Sale" 112 my_X5_wholeDay mb_X5_wholeDay 6 ((some .int)) := ⟨kk_835, kk_814, kk_815, kk_10, kk_816⟩
theorem ws_Sale_115 : WV "WhiteElephants$Sale" 115 my_X0_has mb_X0_has 2 ((some .boolean)) := ⟨kk_868, kk_766, kk_767, kk_7, kk_768⟩
theorem ws_Sale_51 : WV "WhiteElephants$Sale" 51 my_X10_isOffered mb_X10_isOffered 2 ((some .boolean)) := ⟨kk_792, kk_793, kk_794, kk_4, kk_795⟩
theorem ws_Sale_55 : WV "WhiteElephants$Sale" 55 my_X10_trueWorth mb_X10_trueWorth 2 ((some .int)) := ⟨kk_797, kk_524, kk_525, kk_4, kk_526⟩
theorem ws_Sale_70 : WT "WhiteElephants$Sale" 70 my_X5_stage mb_X5_stage 3 ((some .int)) := ⟨kk_802, kk_779, kk_10, kk_780⟩
theorem ws_Sale_74 : WV "WhiteElephants$Sale" 74 my_X5_placeWanted mb_X5_placeWanted 12 ((some .int)) := ⟨kk_803, kk_805, (bw_at 11 (by decide +kernel) rfl), kk_10, kk_806⟩
theorem ws_Sale_81 : WT "WhiteElephants$Sale" 81 my_X5_cost mb_X5_cost 2 ((some .int)) := ⟨kk_807, kk_782, kk_10, kk_783⟩
theorem ws_Sale_85 : WV "WhiteElephants$Sale" 85 my_X5_sell mb_X5_sell 5 ((some .int)) := ⟨kk_822, kk_824, (bw_at 12 (by decide +kernel) rfl), kk_10, kk_825⟩
theorem ws_Sale_91 : WV "WhiteElephants$Sale" 91 my_X10_isOfKinds mb_X10_isOfKinds 3 ((some .boolean)) := ⟨kk_808, kk_738, kk_739, kk_4, kk_740⟩
theorem ws_Secrets_40 : WV "WhiteElephants$Secrets" 40 my_X6_findHidden mb_X6_findHidden 5 ((none : Option Jvm.ClassFile.FieldType)) := ⟨kk_996, kk_998, (bw_at 17 (by decide +kernel) rfl), kk_9, kk_999⟩
theorem ws_Secrets_43 : WT "WhiteElephants$Secrets" 43 my_J7_fill_53178 mb_J7_fill_53178 4 ((none : Option Jvm.ClassFile.FieldType)) := ⟨kk_1000, kk_957, kk_14, kk_958⟩
theorem ws_Secrets_49 : WV "WhiteElephants$Secrets" 49 my_X6_canLie mb_X6_canLie 5 ((some .boolean)) := ⟨kk_1001, kk_1003, (bw_at 18 (by decide +kernel) rfl), kk_9, kk_1004⟩
theorem ws_Secrets_53 : WV "WhiteElephants$Secrets" 53 my_X6_firstTable mb_X6_firstTable 3 ((some .int)) := ⟨kk_1006, kk_1008, (bw_at 19 (by decide +kernel) rfl), kk_9, kk_1009⟩
theorem ws_Secrets_57 : WTN "WhiteElephants$Secrets" 57 my_X11_hasBit mb_X11_hasBit 2 ((some .boolean)) := ⟨by decide +kernel, kk_514, kk_1, kk_515⟩
theorem ws_Shelf_22 : WTN "WhiteElephants$Shelf" 22 my_X11_within mb_X11_within 3 ((some .boolean)) := ⟨by decide +kernel, kk_415, kk_1, kk_416⟩
theorem ws_Shelf_26 : WT "WhiteElephants$Shelf" 26 my_J7_fill_d0a16 mb_J7_fill_d0a16 5 ((none : Option Jvm.ClassFile.FieldType)) := ⟨kk_425, kk_426, kk_14, kk_427⟩
theorem ws_Shelf_32 : WV "WhiteElephants$Shelf" 32 my_X7_hasRow mb_X7_hasRow 1 ((some .boolean)) := ⟨kk_448, kk_449, kk_450, kk_12, kk_451⟩
theorem ws_Shelf_36 : WV "WhiteElephants$Shelf" 36 my_X7_cutToSort mb_X7_cutToSort 3 ((some .long)) := ⟨kk_453, kk_455, (bw_at 2 (by decide +kernel) rfl), kk_12, kk_456⟩
theorem ws_Sightings_37 : WTN "WhiteElephants$Sightings" 37 my_X11_within mb_X11_within 3 ((some .boolean)) := ⟨by decide +kernel, kk_415, kk_1, kk_416⟩
theorem ws_Sightings_41 : WT "WhiteElephants$Sightings" 41 my_J7_fill_53178 mb_J7_fill_53178 4 ((none : Option Jvm.ClassFile.FieldType)) := ⟨kk_956, kk_957, kk_14, kk_958⟩
theorem ws_Sightings_47 : WT "WhiteElephants$Sightings" 47 my_X8_findsNext mb_X8_findsNext 4 ((some .boolean)) := ⟨kk_959, kk_960, kk_8, kk_961⟩
theorem ws_Sightings_51 : WV "WhiteElephants$Sightings" 51 my_X8_mayBeOf mb_X8_mayBeOf 3 ((some .boolean)) := ⟨kk_962, kk_945, kk_946, kk_8, kk_947⟩
theorem ws_Sightings_55 : WV "WhiteElephants$Sightings" 55 my_X8_longestBefore mb_X8_longestBefore 4 ((some .int)) := ⟨kk_971, kk_973, (bw_at 16 (by decide +kernel) rfl), kk_8, kk_974⟩
theorem ws_Sightings_59 : WT "WhiteElephants$Sightings" 59 my_J9_max_7cf53 mb_J9_max_7cf53 2 ((some .int)) := ⟨kk_975, kk_521, kk_17, kk_522⟩
theorem ws_StringLatin1_9 : WT "java/lang/StringLatin1" 9 my_J0_checkIndex_df160 mb_J0_checkIndex_df160 2 ((none : Option Jvm.ClassFile.FieldType)) := ⟨kk_653, kk_654, kk_18, kk_655⟩
theorem ws_StringUTF16_414 : WT "java/lang/StringUTF16" 414 my_J0_checkIndex_df160 mb_J0_checkIndex_df160 2 ((none : Option Jvm.ClassFile.FieldType)) := ⟨kk_670, kk_654, kk_18, kk_655⟩
theorem ws_StringUTF16_48 : WT "java/lang/StringUTF16" 48 my_J2_length_9d52b mb_J2_length_9d52b 1 ((some .int)) := ⟨kk_667, kk_668, kk_21, kk_669⟩
theorem ws_StringUTF16_67 : WT "java/lang/StringUTF16" 67 my_J2_checkIndex_2214a mb_J2_checkIndex_2214a 2 ((none : Option Jvm.ClassFile.FieldType)) := ⟨kk_664, kk_665, kk_21, kk_666⟩
theorem ws_StringUTF16_71 : WT "java/lang/StringUTF16" 71 my_J2_getChar_3b067 mb_J2_getChar_3b067 2 ((some .char)) := ⟨kk_671, kk_672, kk_21, kk_673⟩
theorem ws_String_1059 : WT "java/lang/String" 1059 my_J3_checkIndex_8e157 mb_J3_checkIndex_8e157 3 ((some .int)) := ⟨kk_658, kk_659, kk_20, kk_660⟩
theorem ws_String_335 : WV "java/lang/String" 335 my_J0_coder_7d493 mb_J0_coder_7d493 1 ((some .byte)) := ⟨kk_636, kk_637, kk_638, kk_18, kk_639⟩
theorem ws_String_492 : WV "java/lang/String" 492 my_J0_isLatin1_aae02 mb_J0_isLatin1_aae02 1 ((some .boolean)) := ⟨kk_646, kk_647, kk_648, kk_18, kk_649⟩
theorem ws_String_495 : WT "java/lang/String" 495 my_J1_charAt_3b067 mb_J1_charAt_3b067 2 ((some .char)) := ⟨kk_650, kk_651, kk_19, kk_652⟩
theorem ws_String_498 : WT "java/lang/String" 498 my_J2_charAt_3b067 mb_J2_charAt_3b067 2 ((some .char)) := ⟨kk_661, kk_662, kk_21, kk_663⟩
theorem ws_Tape_25 : WV "WhiteElephants$Tape" 25 my_X3_clearDraft mb_X3_clearDraft 1 ((none : Option Jvm.ClassFile.FieldType)) := ⟨kk_606, kk_607, kk_608, kk_6, kk_609⟩
theorem ws_Tape_30 : WV "WhiteElephants$Tape" 30 my_X9_step mb_X9_step 1 ((none : Option Jvm.ClassFile.FieldType)) := ⟨kk_613, kk_615, (bw_at 6 (by decide +kernel) rfl), kk_2, kk_616⟩
theorem ws_Tape_33 : WV "WhiteElephants$Tape" 33 my_X9_partNamed mb_X9_partNamed 1 ((some .int)) := ⟨kk_623, kk_625, (bw_at 7 (by decide +kernel) rfl), kk_2, kk_626⟩
theorem ws_Tape_37 : WV "WhiteElephants$Tape" 37 my_X9_number mb_X9_number 3 ((some .int)) := ⟨kk_684, kk_686, (bw_at 9 (by decide +kernel) rfl), kk_2, kk_687⟩
theorem ws_Tape_40 : WT "WhiteElephants$Tape" 40 my_X3_mayTell mb_X3_mayTell 2 ((some .boolean)) := ⟨kk_688, kk_689, kk_6, kk_690⟩
theorem ws_Tape_48 : WT "WhiteElephants$Tape" 48 my_X9_isLetter mb_X9_isLetter 1 ((some .boolean)) := ⟨kk_617, kk_618, kk_2, kk_619⟩
theorem ws_Tape_52 : WT "WhiteElephants$Tape" 52 my_X9_isDigit mb_X9_isDigit 1 ((some .boolean)) := ⟨kk_620, kk_621, kk_2, kk_622⟩
theorem ws_Tape_57 : WV "WhiteElephants$Tape" 57 my_X9_isWord mb_X9_isWord 3 ((some .boolean)) := ⟨kk_628, kk_630, (bw_at 8 (by decide +kernel) rfl), kk_2, kk_631⟩
theorem ws_Tape_69 : WV "WhiteElephants$Tape" 69 my_J0_length_8abf5 mb_J0_length_8abf5 1 ((some .int)) := ⟨kk_632, kk_633, kk_634, kk_18, kk_635⟩
theorem ws_Tape_74 : WV "WhiteElephants$Tape" 74 my_J0_charAt_5068e mb_J0_charAt_5068e 2 ((some .char)) := ⟨kk_642, kk_643, kk_644, kk_18, kk_645⟩
theorem ws_Things_37 : WTN "WhiteElephants$Things" 37 my_X11_within mb_X11_within 3 ((some .boolean)) := ⟨by decide +kernel, kk_415, kk_1, kk_416⟩
theorem ws_Things_41 : WV "WhiteElephants$Things" 41 my_X10_isSold mb_X10_isSold 2 ((some .boolean)) := ⟨kk_796, kk_747, kk_748, kk_4, kk_749⟩
theorem ws_Things_45 : WTN "WhiteElephants$Things" 45 my_X11_hasBit mb_X11_hasBit 2 ((some .boolean)) := ⟨by decide +kernel, kk_514, kk_1, kk_515⟩
theorem ws_Things_52 : WV "WhiteElephants$Things" 52 my_X10_chinaWorth mb_X10_chinaWorth 2 ((some .int)) := ⟨kk_527, kk_529, (bw_at 4 (by decide +kernel) rfl), kk_4, kk_530⟩
theorem ws_Things_56 : WV "WhiteElephants$Things" 56 my_X10_asVase mb_X10_asVase 3 ((some .int)) := ⟨kk_531, kk_533, (bw_at 5 (by decide +kernel) rfl), kk_4, kk_534⟩
theorem ws_Things_60 : WV "WhiteElephants$Things" 60 my_X10_lidWorth mb_X10_lidWorth 2 ((some .int)) := ⟨kk_516, kk_518, (bw_at 3 (by decide +kernel) rfl), kk_4, kk_519⟩
theorem ws_Things_63 : WT "WhiteElephants$Things" 63 my_J9_min_7cf53 mb_J9_min_7cf53 2 ((some .int)) := ⟨kk_535, kk_536, kk_17, kk_537⟩
theorem ws_Things_68 : WT "WhiteElephants$Things" 68 my_J6_bitCount_0f7a4 mb_J6_bitCount_0f7a4 1 ((some .int)) := ⟨kk_507, kk_508, kk_16, kk_509⟩
theorem ws_Things_73 : WT "WhiteElephants$Things" 73 my_J9_max_7cf53 mb_J9_max_7cf53 2 ((some .int)) := ⟨kk_520, kk_521, kk_17, kk_522⟩
theorem ws_Things_76 : WV "WhiteElephants$Things" 76 my_X10_trueWorth mb_X10_trueWorth 2 ((some .int)) := ⟨kk_523, kk_524, kk_525, kk_4, kk_526⟩
theorem ws_Things_79 : WV "WhiteElephants$Things" 79 my_X10_isOfKinds mb_X10_isOfKinds 3 ((some .boolean)) := ⟨kk_849, kk_738, kk_739, kk_4, kk_740⟩
theorem ws_Things_82 : WT "WhiteElephants$Things" 82 my_J7_fill_53178 mb_J7_fill_53178 4 ((none : Option Jvm.ClassFile.FieldType)) := ⟨kk_1037, kk_957, kk_14, kk_958⟩
theorem ws_Things_88 : WV "WhiteElephants$Things" 88 my_X10_countLeft mb_X10_countLeft 3 ((some .int)) := ⟨kk_1038, kk_874, kk_875, kk_4, kk_876⟩
theorem ws_Things_95 : WV "WhiteElephants$Things" 95 my_X10_dearestUnshared mb_X10_dearestUnshared 5 ((some .int)) := ⟨kk_1041, kk_1043, (bw_at 21 (by decide +kernel) rfl), kk_4, kk_1044⟩
theorem ws_X_109 : WV "WhiteElephants" 109 my_X7_at mb_X7_at 2 ((some .long)) := ⟨kk_473, kk_474, kk_475, kk_12, kk_476⟩
theorem ws_X_117 : WV "WhiteElephants" 117 my_X10_has mb_X10_has 2 ((some .boolean)) := ⟨kk_485, kk_486, kk_487, kk_4, kk_488⟩
theorem ws_X_122 : WT "WhiteElephants" 122 my_X11_isKind mb_X11_isKind 1 ((some .boolean)) := ⟨kk_494, kk_495, kk_1, kk_496⟩
theorem ws_X_125 : WV "WhiteElephants" 125 my_X10_isOfOrUnder mb_X10_isOfOrUnder 5 ((some .boolean)) := ⟨kk_497, kk_498, kk_499, kk_4, kk_500⟩
theorem ws_X_128 : WV "WhiteElephants" 128 my_X10_wordOf mb_X10_wordOf 3 ((some .int)) := ⟨kk_503, kk_504, kk_505, kk_4, kk_506⟩
theorem ws_X_135 : WV "WhiteElephants" 135 my_X10_add mb_X10_add 4 ((some .int)) := ⟨kk_542, kk_543, kk_544, kk_4, kk_545⟩
theorem ws_X_150 : WV "WhiteElephants" 150 my_X10_trueWorth mb_X10_trueWorth 2 ((some .int)) := ⟨kk_555, kk_524, kk_525, kk_4, kk_526⟩
theorem ws_X_162 : WT "WhiteElephants" 162 my_X11_hasBit mb_X11_hasBit 2 ((some .boolean)) := ⟨kk_560, kk_514, kk_1, kk_515⟩
theorem ws_X_165 : WT "WhiteElephants" 165 my_X11_isKinds mb_X11_isKinds 1 ((some .boolean)) := ⟨kk_565, kk_566, kk_1, kk_567⟩
theorem ws_X_175 : WV "WhiteElephants" 175 my_X2_add mb_X2_add 3 ((some .int)) := ⟨kk_568, kk_569, kk_570, kk_5, kk_571⟩
theorem ws_X_177 : WV "WhiteElephants" 177 my_X2_has mb_X2_has 2 ((some .boolean)) := ⟨kk_576, kk_577, kk_578, kk_5, kk_579⟩
theorem ws_X_182 : WV "WhiteElephants" 182 my_X3_has mb_X3_has 2 ((some .boolean)) := ⟨kk_581, kk_582, kk_583, kk_6, kk_584⟩
theorem ws_X_189 : WV "WhiteElephants" 189 my_X9_append mb_X9_append 4 ((none : Option Jvm.ClassFile.FieldType)) := ⟨kk_590, kk_591, kk_592, kk_2, kk_593⟩
theorem ws_X_193 : WV "WhiteElephants" 193 my_X9_readInto mb_X9_readInto 5 ((some .int)) := ⟨kk_602, kk_603, kk_604, kk_2, kk_605⟩
theorem ws_X_197 : WV "WhiteElephants" 197 my_X3_addDraft mb_X3_addDraft 1 ((some .int)) := ⟨kk_695, kk_696, kk_697, kk_6, kk_698⟩
theorem ws_X_201 : WV "WhiteElephants" 201 my_X3_part mb_X3_part 3 ((some .int)) := ⟨kk_703, kk_704, kk_705, kk_6, kk_706⟩
theorem ws_X_204 : WV "WhiteElephants" 204 my_X1_lostOn mb_X1_lostOn 4 ((some .int)) := ⟨kk_712, kk_713, kk_714, kk_3, kk_715⟩
theorem ws_X_207 : WV "WhiteElephants" 207 my_X1_priceBy mb_X1_priceBy 3 ((some .int)) := ⟨kk_725, kk_726, kk_727, kk_3, kk_728⟩
theorem ws_X_21 : WIN "WhiteElephants" 21 my_X9_init mb_X9_init 1 := ⟨by decide +kernel, kk_35, kk_2, kk_36⟩
theorem ws_X_210 : WV "WhiteElephants" 210 my_X1_priceAll mb_X1_priceAll 5 ((some .int)) := ⟨kk_733, kk_734, kk_735, kk_3, kk_736⟩
theorem ws_X_213 : WV "WhiteElephants" 213 my_X10_isSold mb_X10_isSold 2 ((some .boolean)) := ⟨kk_746, kk_747, kk_748, kk_4, kk_749⟩
theorem ws_X_216 : WT "WhiteElephants" 216 my_X11_isHour mb_X11_isHour 1 ((some .boolean)) := ⟨kk_754, kk_755, kk_1, kk_756⟩
theorem ws_X_226 : WV "WhiteElephants" 226 my_X0_add mb_X0_add 5 ((some .int)) := ⟨kk_757, kk_758, kk_759, kk_7, kk_760⟩
theorem ws_X_229 : WV "WhiteElephants" 229 my_X0_has mb_X0_has 2 ((some .boolean)) := ⟨kk_765, kk_766, kk_767, kk_7, kk_768⟩
theorem ws_X_251 : WT "WhiteElephants" 251 my_X5_stage mb_X5_stage 3 ((some .int)) := ⟨kk_778, kk_779, kk_10, kk_780⟩
theorem ws_X_254 : WT "WhiteElephants" 254 my_X5_cost mb_X5_cost 2 ((some .int)) := ⟨kk_781, kk_782, kk_10, kk_783⟩
theorem ws_X_257 : WV "WhiteElephants" 257 my_X5_open mb_X5_open 6 ((none : Option Jvm.ClassFile.FieldType)) := ⟨kk_788, kk_789, kk_790, kk_10, kk_791⟩
theorem ws_X_261 : WV "WhiteElephants" 261 my_X5_wanted mb_X5_wanted 5 ((some .int)) := ⟨kk_798, kk_799, kk_800, kk_10, kk_801⟩
theorem ws_X_265 : WV "WhiteElephants" 265 my_X5_wholeDay mb_X5_wholeDay 6 ((some .int)) := ⟨kk_813, kk_814, kk_815, kk_10, kk_816⟩
theorem ws_X_268 : WV "WhiteElephants" 268 my_X5_bestTurns mb_X5_bestTurns 7 ((some .int)) := ⟨kk_831, kk_832, kk_833, kk_10, kk_834⟩
theorem ws_X_272 : WV "WhiteElephants" 272 my_X5_playHour mb_X5_playHour 7 ((some .int)) := ⟨kk_840, kk_819, kk_820, kk_10, kk_821⟩
theorem ws_X_276 : WV "WhiteElephants" 276 my_X10_worthLeft mb_X10_worthLeft 4 ((some .int)) := ⟨kk_845, kk_846, kk_847, kk_4, kk_848⟩
theorem ws_X_279 : WV "WhiteElephants" 279 my_X1_lostOnKinds mb_X1_lostOnKinds 5 ((some .int)) := ⟨kk_854, kk_855, kk_856, kk_3, kk_857⟩
theorem ws_X_28 : WIN "WhiteElephants" 28 my_X1_init mb_X1_init 1 := ⟨by decide +kernel, kk_57, kk_3, kk_58⟩
theorem ws_X_284 : WT "WhiteElephants" 284 my_J9_min_7cf53 mb_J9_min_7cf53 2 ((some .int)) := ⟨kk_863, kk_536, kk_17, kk_537⟩
theorem ws_X_289 : WV "WhiteElephants" 289 my_X5_settle mb_X5_settle 6 ((none : Option Jvm.ClassFile.FieldType)) := ⟨kk_864, kk_865, kk_866, kk_10, kk_867⟩
theorem ws_X_296 : WV "WhiteElephants" 296 my_X10_countLeft mb_X10_countLeft 3 ((some .int)) := ⟨kk_873, kk_874, kk_875, kk_4, kk_876⟩
theorem ws_X_299 : WV "WhiteElephants" 299 my_X4_bargains mb_X4_bargains 4 ((some .int)) := ⟨kk_885, kk_886, kk_887, kk_11, kk_888⟩
theorem ws_X_309 : WV "WhiteElephants" 309 my_X1_planTables mb_X1_planTables 4 ((none : Option Jvm.ClassFile.FieldType)) := ⟨kk_903, kk_904, kk_905, kk_3, kk_906⟩
theorem ws_X_315 : WV "WhiteElephants" 315 my_X1_ladyAt mb_X1_ladyAt 5 ((some .int)) := ⟨kk_917, kk_918, kk_919, kk_3, kk_920⟩
theorem ws_X_318 : WT "WhiteElephants" 318 my_X11_isPersonOrNone mb_X11_isPersonOrNone 1 ((some .boolean)) := ⟨kk_925, kk_926, kk_1, kk_927⟩
theorem ws_X_328 : WV "WhiteElephants" 328 my_X8_add mb_X8_add 5 ((some .int)) := ⟨kk_931, kk_932, kk_933, kk_8, kk_934⟩
theorem ws_X_329 : WV "WhiteElephants" 329 my_X8_has mb_X8_has 2 ((some .boolean)) := ⟨kk_939, kk_940, kk_941, kk_8, kk_942⟩
theorem ws_X_330 : WV "WhiteElephants" 330 my_X8_mayBeOf mb_X8_mayBeOf 3 ((some .boolean)) := ⟨kk_944, kk_945, kk_946, kk_8, kk_947⟩
theorem ws_X_333 : WV "WhiteElephants" 333 my_X8_fewestVases mb_X8_fewestVases 3 ((some .int)) := ⟨kk_952, kk_953, kk_954, kk_8, kk_955⟩
theorem ws_X_336 : WV "WhiteElephants" 336 my_X8_longestRow mb_X8_longestRow 4 ((some .int)) := ⟨kk_967, kk_968, kk_969, kk_8, kk_970⟩
theorem ws_X_339 : WT "WhiteElephants" 339 my_X11_isPerson mb_X11_isPerson 1 ((some .boolean)) := ⟨kk_928, kk_929, kk_1, kk_930⟩
theorem ws_X_349 : WV "WhiteElephants" 349 my_X6_add mb_X6_add 3 ((some .int)) := ⟨kk_980, kk_981, kk_982, kk_9, kk_983⟩
theorem ws_X_353 : WV "WhiteElephants" 353 my_X6_lay mb_X6_lay 3 ((some .boolean)) := ⟨kk_992, kk_993, kk_994, kk_9, kk_995⟩
theorem ws_X_356 : WV "WhiteElephants" 356 my_X6_tableOf mb_X6_tableOf 3 ((some .int)) := ⟨kk_1010, kk_1011, kk_1012, kk_9, kk_1013⟩
theorem ws_X_359 : WV "WhiteElephants" 359 my_X4_fewestPaid mb_X4_fewestPaid 5 ((some .int)) := ⟨kk_1018, kk_1019, kk_1020, kk_11, kk_1021⟩
theorem ws_X_362 : WV "WhiteElephants" 362 my_X10_share mb_X10_share 6 ((none : Option Jvm.ClassFile.FieldType)) := ⟨kk_1033, kk_1034, kk_1035, kk_4, kk_1036⟩
theorem ws_X_369 : WV "WhiteElephants" 369 my_X1_become mb_X1_become 2 ((none : Option Jvm.ClassFile.FieldType)) := ⟨kk_1049, kk_1050, kk_1051, kk_3, kk_1052⟩
theorem ws_X_372 : WV "WhiteElephants" 372 my_X11_shelvesInUse mb_X11_shelvesInUse 3 ((some .int)) := ⟨kk_1091, kk_1093, (bw_at 22 (by decide +kernel) rfl), kk_1, kk_1094⟩
theorem ws_X_38 : WIN "WhiteElephants" 38 my_X5_init mb_X5_init 1 := ⟨by decide +kernel, kk_319, kk_10, kk_320⟩
theorem ws_X_45 : WIN "WhiteElephants" 45 my_X4_init mb_X4_init 1 := ⟨by decide +kernel, kk_353, kk_11, kk_354⟩
theorem ws_X_54 : WIN "WhiteElephants" 54 my_X7_init mb_X7_init 1 := ⟨by decide +kernel, kk_365, kk_12, kk_366⟩
theorem ws_X_55 : WT "WhiteElephants" 55 my_X11_isShelf mb_X11_isShelf 1 ((some .boolean)) := ⟨kk_411, kk_412, kk_1, kk_413⟩
theorem ws_X_59 : WT "WhiteElephants" 59 my_X11_within mb_X11_within 3 ((some .boolean)) := ⟨kk_414, kk_415, kk_1, kk_416⟩
theorem ws_X_63 : WV "WhiteElephants" 63 my_X11_refuse mb_X11_refuse 3 ((some .int)) := ⟨kk_417, kk_419, (bw_at 0 (by decide +kernel) rfl), kk_1, kk_420⟩
theorem ws_X_67 : WV "WhiteElephants" 67 my_X7_takeRow mb_X7_takeRow 3 ((none : Option Jvm.ClassFile.FieldType)) := ⟨kk_421, kk_422, kk_423, kk_12, kk_424⟩
theorem ws_X_71 : WV "WhiteElephants" 71 my_X11_refusalOfRow mb_X11_refusalOfRow 2 ((some .int)) := ⟨kk_432, kk_434, (bw_at 1 (by decide +kernel) rfl), kk_1, kk_435⟩
theorem ws_X_78 : WV "WhiteElephants" 78 my_X7_put mb_X7_put 4 ((none : Option Jvm.ClassFile.FieldType)) := ⟨kk_444, kk_445, kk_446, kk_12, kk_447⟩
theorem ws_X_82 : WV "WhiteElephants" 82 my_X7_hasThing mb_X7_hasThing 1 ((some .boolean)) := ⟨kk_436, kk_437, kk_438, kk_12, kk_439⟩
theorem ws_X_86 : WV "WhiteElephants" 86 my_X7_hasRow mb_X7_hasRow 1 ((some .boolean)) := ⟨kk_461, kk_449, kk_450, kk_12, kk_451⟩
theorem ws_X_92 : WV "WhiteElephants" 92 my_X7_isEmpty mb_X7_isEmpty 1 ((some .boolean)) := ⟨kk_440, kk_441, kk_442, kk_12, kk_443⟩
theorem ws_X_95 : WV "WhiteElephants" 95 my_X7_hasPlaces mb_X7_hasPlaces 3 ((some .boolean)) := ⟨kk_462, kk_463, kk_464, kk_12, kk_465⟩
