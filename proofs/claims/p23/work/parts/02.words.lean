def lw_t2 : List Cond := lw_tbl.filter goodWord
theorem t2_in : ∀ w ∈ lw_t2, w ∈ lw_tbl := fun w h => (List.mem_filter.mp h).1
theorem t2_good : ∀ w ∈ lw_t2, (w.onTables && w.keeps) = true ∨ ∃ ty, w = .arrayClass ty := fun w h => good_of_word (List.mem_filter.mp h).2
theorem t2_1 {w : Cond} (h : w ∈ tables_1_1) (hg : goodWord w = true) : w ∈ lw_t2 := List.mem_filter.mpr ⟨List.mem_append_right _ (show w ∈ tables_1 from List.mem_append_left _ h), hg⟩
theorem t2_2 {w : Cond} (h : w ∈ tables_1_2) (hg : goodWord w = true) : w ∈ lw_t2 := List.mem_filter.mpr ⟨List.mem_append_right _ (show w ∈ tables_1 from List.mem_append_right _ (List.mem_append_left _ h)), hg⟩
theorem t2_3 {w : Cond} (h : w ∈ tables_1_3) (hg : goodWord w = true) : w ∈ lw_t2 := List.mem_filter.mpr ⟨List.mem_append_right _ (show w ∈ tables_1 from List.mem_append_right _ (List.mem_append_right _ (List.mem_append_left _ h))), hg⟩
theorem t2_4 {w : Cond} (h : w ∈ tables_1_4) (hg : goodWord w = true) : w ∈ lw_t2 := List.mem_filter.mpr ⟨List.mem_append_right _ (show w ∈ tables_1 from List.mem_append_right _ (List.mem_append_right _ (List.mem_append_right _ (List.mem_append_left _ h)))), hg⟩
theorem t2_5 {w : Cond} (h : w ∈ tables_1_5) (hg : goodWord w = true) : w ∈ lw_t2 := List.mem_filter.mpr ⟨List.mem_append_right _ (show w ∈ tables_1 from List.mem_append_right _ (List.mem_append_right _ (List.mem_append_right _ (List.mem_append_right _ (List.mem_append_left _ h))))), hg⟩
theorem t2_6 {w : Cond} (h : w ∈ tables_1_6) (hg : goodWord w = true) : w ∈ lw_t2 := List.mem_filter.mpr ⟨List.mem_append_right _ (show w ∈ tables_1 from List.mem_append_right _ (List.mem_append_right _ (List.mem_append_right _ (List.mem_append_right _ (List.mem_append_right _ (List.mem_append_left _ h)))))), hg⟩
theorem t2_7 {w : Cond} (h : w ∈ tables_1_7) (hg : goodWord w = true) : w ∈ lw_t2 := List.mem_filter.mpr ⟨List.mem_append_right _ (show w ∈ tables_1 from List.mem_append_right _ (List.mem_append_right _ (List.mem_append_right _ (List.mem_append_right _ (List.mem_append_right _ (List.mem_append_right _ (h))))))), hg⟩
theorem tw_0 : (.selects RJx4a65c yJx4a65c_add_72be8 yJx4a65c_add_72be8 : Cond) ∈ lw_t2 := List.mem_filter.mpr ⟨List.mem_append_left _ (List.mem_of_getElem? (i := 0) rfl), rfl⟩
theorem tw_1 : (.selects RJx4a65c yJx4a65c_grow_d5877 yJx4a65c_grow_d5877 : Cond) ∈ lw_t2 := List.mem_filter.mpr ⟨List.mem_append_left _ (List.mem_of_getElem? (i := 1) rfl), rfl⟩
theorem tw_2 : (.selects RJx4a65c yJx4a65c_grow_92f84 yJx4a65c_grow_92f84 : Cond) ∈ lw_t2 := List.mem_filter.mpr ⟨List.mem_append_left _ (List.mem_of_getElem? (i := 2) rfl), rfl⟩
theorem tw_3 : (.selects RX11 yX11_refuse yX11_refuse : Cond) ∈ lw_t2 := List.mem_filter.mpr ⟨List.mem_append_left _ (List.mem_of_getElem? (i := 3) rfl), rfl⟩
theorem tw_4 : (.selects RX11 yX11_readerOf yX11_readerOf : Cond) ∈ lw_t2 := List.mem_filter.mpr ⟨List.mem_append_left _ (List.mem_of_getElem? (i := 4) rfl), rfl⟩
theorem tw_5 : (.selects RX11 yX11_isKnown yX11_isKnown : Cond) ∈ lw_t2 := List.mem_filter.mpr ⟨List.mem_append_left _ (List.mem_of_getElem? (i := 5) rfl), rfl⟩
theorem tw_6 : (.selects RX11 yX11_newsOf yX11_newsOf : Cond) ∈ lw_t2 := List.mem_filter.mpr ⟨List.mem_append_left _ (List.mem_of_getElem? (i := 6) rfl), rfl⟩
theorem tw_7 : (.selects RX11 yX11_isOfItsKind yX11_isOfItsKind : Cond) ∈ lw_t2 := List.mem_filter.mpr ⟨List.mem_append_left _ (List.mem_of_getElem? (i := 7) rfl), rfl⟩
theorem tw_8 : (.selects RX11 yX11_mayBreak yX11_mayBreak : Cond) ∈ lw_t2 := List.mem_filter.mpr ⟨List.mem_append_left _ (List.mem_of_getElem? (i := 8) rfl), rfl⟩
theorem tw_9 : (.selects RX11 yX11_inForce yX11_inForce : Cond) ∈ lw_t2 := List.mem_filter.mpr ⟨List.mem_append_left _ (List.mem_of_getElem? (i := 9) rfl), rfl⟩
theorem tw_10 : (.selects RX7 yX7_push yX7_push : Cond) ∈ lw_t2 := List.mem_filter.mpr ⟨List.mem_append_left _ (List.mem_of_getElem? (i := 10) rfl), rfl⟩
theorem tw_11 : (.selects RX7 yX7_letter yX7_letter : Cond) ∈ lw_t2 := List.mem_filter.mpr ⟨List.mem_append_left _ (List.mem_of_getElem? (i := 11) rfl), rfl⟩
theorem tw_12 : (.selects RX7 yX7_join yX7_join : Cond) ∈ lw_t2 := List.mem_filter.mpr ⟨List.mem_append_left _ (List.mem_of_getElem? (i := 12) rfl), rfl⟩
theorem tw_13 : (.selects RX11 yX11_markRead yX11_markRead : Cond) ∈ lw_t2 := List.mem_filter.mpr ⟨List.mem_append_left _ (List.mem_of_getElem? (i := 13) rfl), rfl⟩
theorem tw_14 : (.selects RX10 yX10_parseSum yX10_parseSum : Cond) ∈ lw_t2 := List.mem_filter.mpr ⟨List.mem_append_left _ (List.mem_of_getElem? (i := 14) rfl), rfl⟩
theorem tw_15 : (.selects RX10 yX10_parseProduct yX10_parseProduct : Cond) ∈ lw_t2 := List.mem_filter.mpr ⟨List.mem_append_left _ (List.mem_of_getElem? (i := 15) rfl), rfl⟩
theorem tw_16 : (.selects RX10 yX10_parseUnit yX10_parseUnit : Cond) ∈ lw_t2 := List.mem_filter.mpr ⟨List.mem_append_left _ (List.mem_of_getElem? (i := 16) rfl), rfl⟩
theorem tw_17 : (.selects RX10 yX10_next yX10_next : Cond) ∈ lw_t2 := List.mem_filter.mpr ⟨List.mem_append_left _ (List.mem_of_getElem? (i := 17) rfl), rfl⟩
theorem tw_18 : (.selects RX10 yX10_parseBracket yX10_parseBracket : Cond) ∈ lw_t2 := List.mem_filter.mpr ⟨List.mem_append_left _ (List.mem_of_getElem? (i := 18) rfl), rfl⟩
theorem tw_19 : (.selects RX10 yX10_emit yX10_emit : Cond) ∈ lw_t2 := List.mem_filter.mpr ⟨List.mem_append_left _ (List.mem_of_getElem? (i := 19) rfl), rfl⟩
theorem tw_20 : (.selects RX10 yX10_parseNumber yX10_parseNumber : Cond) ∈ lw_t2 := List.mem_filter.mpr ⟨List.mem_append_left _ (List.mem_of_getElem? (i := 20) rfl), rfl⟩
theorem tw_21 : (.selects RX11 yX11_worthIn yX11_worthIn : Cond) ∈ lw_t2 := List.mem_filter.mpr ⟨List.mem_append_left _ (List.mem_of_getElem? (i := 21) rfl), rfl⟩
theorem tw_22 : (.selects RX11 yX11_valueOf yX11_valueOf : Cond) ∈ lw_t2 := List.mem_filter.mpr ⟨List.mem_append_left _ (List.mem_of_getElem? (i := 22) rfl), rfl⟩
theorem tw_23 : (.selects RX11 yX11_evenUntil yX11_evenUntil : Cond) ∈ lw_t2 := List.mem_filter.mpr ⟨List.mem_append_left _ (List.mem_of_getElem? (i := 23) rfl), rfl⟩
theorem tw_24 : (.selects RX11 yX11_sumOf yX11_sumOf : Cond) ∈ lw_t2 := List.mem_filter.mpr ⟨List.mem_append_left _ (List.mem_of_getElem? (i := 24) rfl), rfl⟩
theorem tw_25 : (.selects RX3 yX3_breakable yX3_breakable : Cond) ∈ lw_t2 := List.mem_filter.mpr ⟨List.mem_append_left _ (List.mem_of_getElem? (i := 25) rfl), rfl⟩
theorem tw_26 : (.selects RX3 yX3_hitsAllComplaints yX3_hitsAllComplaints : Cond) ∈ lw_t2 := List.mem_filter.mpr ⟨List.mem_append_left _ (List.mem_of_getElem? (i := 26) rfl), rfl⟩
theorem tw_27 : (.selects RX3 yX3_allReachedWith yX3_allReachedWith : Cond) ∈ lw_t2 := List.mem_filter.mpr ⟨List.mem_append_left _ (List.mem_of_getElem? (i := 27) rfl), rfl⟩
theorem tw_28 : (.selects RX3 yX3_raise yX3_raise : Cond) ∈ lw_t2 := List.mem_filter.mpr ⟨List.mem_append_left _ (List.mem_of_getElem? (i := 28) rfl), rfl⟩
theorem tw_29 : (.selects RX3 yX3_addListener yX3_addListener : Cond) ∈ lw_t2 := List.mem_filter.mpr ⟨List.mem_append_left _ (List.mem_of_getElem? (i := 29) rfl), rfl⟩
theorem tw_30 : (.selects RX11 yX11_refusedSoFar yX11_refusedSoFar : Cond) ∈ lw_t2 := List.mem_filter.mpr ⟨List.mem_append_left _ (List.mem_of_getElem? (i := 30) rfl), rfl⟩
theorem tw_31 : (.selects RX12 yX12_refuse yX12_refuse : Cond) ∈ lw_t2 := List.mem_filter.mpr ⟨List.mem_append_left _ (List.mem_of_getElem? (i := 31) rfl), rfl⟩
theorem tw_32 : (.selects RX12 yX12_goesBy yX12_goesBy : Cond) ∈ lw_t2 := List.mem_filter.mpr ⟨List.mem_append_left _ (List.mem_of_getElem? (i := 32) rfl), rfl⟩
theorem tw_33 : (.selects RX12 yX12_isNode yX12_isNode : Cond) ∈ lw_t2 := List.mem_filter.mpr ⟨List.mem_append_left _ (List.mem_of_getElem? (i := 33) rfl), rfl⟩
theorem tw_34 : (.selects RX12 yX12_sounds yX12_sounds : Cond) ∈ lw_t2 := List.mem_filter.mpr ⟨List.mem_append_left _ (List.mem_of_getElem? (i := 34) rfl), rfl⟩
theorem tw_35 : (.selects RX12 yX12_isCut yX12_isCut : Cond) ∈ lw_t2 := List.mem_filter.mpr ⟨List.mem_append_left _ (List.mem_of_getElem? (i := 35) rfl), rfl⟩
theorem tw_36 : (.selects RX12 yX12_isHome yX12_isHome : Cond) ∈ lw_t2 := List.mem_filter.mpr ⟨List.mem_append_left _ (List.mem_of_getElem? (i := 36) rfl), rfl⟩
theorem tw_37 : (.selects RX12 yX12_hearsNow yX12_hearsNow : Cond) ∈ lw_t2 := List.mem_filter.mpr ⟨List.mem_append_left _ (List.mem_of_getElem? (i := 37) rfl), rfl⟩
theorem tw_38 : (.selects RX12 yX12_may yX12_may : Cond) ∈ lw_t2 := List.mem_filter.mpr ⟨List.mem_append_left _ (List.mem_of_getElem? (i := 38) rfl), rfl⟩
theorem tw_39 : (.selects RX12 yX12_isPast yX12_isPast : Cond) ∈ lw_t2 := List.mem_filter.mpr ⟨List.mem_append_left _ (List.mem_of_getElem? (i := 39) rfl), rfl⟩
theorem tw_40 : (.selects RX12 yX12_bare yX12_bare : Cond) ∈ lw_t2 := List.mem_filter.mpr ⟨List.mem_append_left _ (List.mem_of_getElem? (i := 40) rfl), rfl⟩
theorem tw_41 : (.selects RX12 yX12_worth yX12_worth : Cond) ∈ lw_t2 := List.mem_filter.mpr ⟨List.mem_append_left _ (List.mem_of_getElem? (i := 41) rfl), rfl⟩
theorem tw_42 : (.selects RX12 yX12_inForce yX12_inForce : Cond) ∈ lw_t2 := List.mem_filter.mpr ⟨List.mem_append_left _ (List.mem_of_getElem? (i := 42) rfl), rfl⟩
theorem tw_43 : (.selects RX12 yX12_goesThrough yX12_goesThrough : Cond) ∈ lw_t2 := List.mem_filter.mpr ⟨List.mem_append_left _ (List.mem_of_getElem? (i := 43) rfl), rfl⟩
theorem tw_44 : (.selects RX12 yX12_sum yX12_sum : Cond) ∈ lw_t2 := List.mem_filter.mpr ⟨List.mem_append_left _ (List.mem_of_getElem? (i := 44) rfl), rfl⟩
theorem tw_45 : (.selects RX12 yX12_term yX12_term : Cond) ∈ lw_t2 := List.mem_filter.mpr ⟨List.mem_append_left _ (List.mem_of_getElem? (i := 45) rfl), rfl⟩
theorem tw_46 : (.selects RX12 yX12_unit yX12_unit : Cond) ∈ lw_t2 := List.mem_filter.mpr ⟨List.mem_append_left _ (List.mem_of_getElem? (i := 46) rfl), rfl⟩
theorem tw_47 : (.selects RX12 yX12_sign yX12_sign : Cond) ∈ lw_t2 := List.mem_filter.mpr ⟨List.mem_append_left _ (List.mem_of_getElem? (i := 47) rfl), rfl⟩
theorem tw_48 : (.selects RX12 yX12_breaksOff yX12_breaksOff : Cond) ∈ lw_t2 := List.mem_filter.mpr ⟨List.mem_append_left _ (List.mem_of_getElem? (i := 48) rfl), rfl⟩
theorem tw_49 : (.selects RX12 yX12_takes yX12_takes : Cond) ∈ lw_t2 := List.mem_filter.mpr ⟨List.mem_append_left _ (List.mem_of_getElem? (i := 49) rfl), rfl⟩
theorem tw_50 : (.selects RX12 yX12_reads yX12_reads : Cond) ∈ lw_t2 := List.mem_filter.mpr ⟨List.mem_append_left _ (List.mem_of_getElem? (i := 50) rfl), rfl⟩
theorem tw_51 : (.selects RX12 yX12_counts yX12_counts : Cond) ∈ lw_t2 := List.mem_filter.mpr ⟨List.mem_append_left _ (List.mem_of_getElem? (i := 51) rfl), rfl⟩
theorem tw_52 : (.selects RX12 yX12_countsAnew yX12_countsAnew : Cond) ∈ lw_t2 := List.mem_filter.mpr ⟨List.mem_append_left _ (List.mem_of_getElem? (i := 52) rfl), rfl⟩
theorem tw_53 : (.selects RX12 yX12_listens yX12_listens : Cond) ∈ lw_t2 := List.mem_filter.mpr ⟨List.mem_append_left _ (List.mem_of_getElem? (i := 53) rfl), rfl⟩
theorem tw_54 : (.selects RX12 yX12_heardBy yX12_heardBy : Cond) ∈ lw_t2 := List.mem_filter.mpr ⟨List.mem_append_left _ (List.mem_of_getElem? (i := 54) rfl), rfl⟩
theorem tw_55 : (.selects RX12 yX12_worthOf yX12_worthOf : Cond) ∈ lw_t2 := List.mem_filter.mpr ⟨List.mem_append_left _ (List.mem_of_getElem? (i := 55) rfl), rfl⟩
theorem tw_56 : (.selects RX12 yX12_puts yX12_puts : Cond) ∈ lw_t2 := List.mem_filter.mpr ⟨List.mem_append_left _ (List.mem_of_getElem? (i := 56) rfl), rfl⟩
theorem tw_57 : (.selects RX12 yX12_findsForce yX12_findsForce : Cond) ∈ lw_t2 := List.mem_filter.mpr ⟨List.mem_append_left _ (List.mem_of_getElem? (i := 57) rfl), rfl⟩
theorem tw_58 : (.selects RX12 yX12_asBefore yX12_asBefore : Cond) ∈ lw_t2 := List.mem_filter.mpr ⟨List.mem_append_left _ (List.mem_of_getElem? (i := 58) rfl), rfl⟩
theorem tw_59 : (.selects RX12 yX12_has yX12_has : Cond) ∈ lw_t2 := List.mem_filter.mpr ⟨List.mem_append_left _ (List.mem_of_getElem? (i := 59) rfl), rfl⟩
theorem tw_60 : (.selects RX12 yX12_explains yX12_explains : Cond) ∈ lw_t2 := List.mem_filter.mpr ⟨List.mem_append_left _ (List.mem_of_getElem? (i := 60) rfl), rfl⟩
theorem tw_61 : (.selects RX12 yX12_wrongHours yX12_wrongHours : Cond) ∈ lw_t2 := List.mem_filter.mpr ⟨List.mem_append_left _ (List.mem_of_getElem? (i := 61) rfl), rfl⟩
theorem tw_62 : (.selects RX12 yX12_asks yX12_asks : Cond) ∈ lw_t2 := List.mem_filter.mpr ⟨List.mem_append_left _ (List.mem_of_getElem? (i := 62) rfl), rfl⟩
theorem tw_63 : (.selects RX12 yX12_coversBy yX12_coversBy : Cond) ∈ lw_t2 := List.mem_filter.mpr ⟨List.mem_append_left _ (List.mem_of_getElem? (i := 63) rfl), rfl⟩
theorem tw_64 : (.selects RX12 yX12_counting yX12_counting : Cond) ∈ lw_t2 := List.mem_filter.mpr ⟨List.mem_append_left _ (List.mem_of_getElem? (i := 64) rfl), rfl⟩
theorem tw_65 : (.selects RX12 yX12_isEnough yX12_isEnough : Cond) ∈ lw_t2 := List.mem_filter.mpr ⟨List.mem_append_left _ (List.mem_of_getElem? (i := 65) rfl), rfl⟩
theorem tw_67 : (.initialized RX11 : Cond) ∈ lw_t2 := t2_1 (List.mem_of_getElem? (i := 1) rfl) rfl
theorem tw_68 : (.initialized RX3 : Cond) ∈ lw_t2 := t2_1 (List.mem_of_getElem? (i := 2) rfl) rfl
theorem tw_69 : (.initialized RJxa1e45 : Cond) ∈ lw_t2 := t2_1 (List.mem_of_getElem? (i := 3) rfl) rfl
theorem tw_70 : (.initialized RJxc12de : Cond) ∈ lw_t2 := t2_1 (List.mem_of_getElem? (i := 4) rfl) rfl
theorem tw_71 : (.initialized RJx4a65c : Cond) ∈ lw_t2 := t2_1 (List.mem_of_getElem? (i := 5) rfl) rfl
theorem tw_72 : (.initialized RX5 : Cond) ∈ lw_t2 := t2_1 (List.mem_of_getElem? (i := 6) rfl) rfl
theorem tw_73 : (.initialized RJ8 : Cond) ∈ lw_t2 := t2_1 (List.mem_of_getElem? (i := 7) rfl) rfl
theorem tw_74 : (.initialized RJ9 : Cond) ∈ lw_t2 := t2_1 (List.mem_of_getElem? (i := 8) rfl) rfl
theorem tw_75 : (.initialized RJ7 : Cond) ∈ lw_t2 := t2_1 (List.mem_of_getElem? (i := 9) rfl) rfl
theorem tw_76 : (.initialized RJ10 : Cond) ∈ lw_t2 := t2_1 (List.mem_of_getElem? (i := 10) rfl) rfl
theorem tw_77 : (.initialized RX2 : Cond) ∈ lw_t2 := t2_1 (List.mem_of_getElem? (i := 11) rfl) rfl
theorem tw_78 : (.initialized RX10 : Cond) ∈ lw_t2 := t2_1 (List.mem_of_getElem? (i := 12) rfl) rfl
theorem tw_79 : (.initialized RX7 : Cond) ∈ lw_t2 := t2_1 (List.mem_of_getElem? (i := 13) rfl) rfl
theorem tw_80 : (.initialized RX12 : Cond) ∈ lw_t2 := t2_1 (List.mem_of_getElem? (i := 14) rfl) rfl
theorem tw_81 : (.initialized RX8 : Cond) ∈ lw_t2 := t2_1 (List.mem_of_getElem? (i := 15) rfl) rfl
theorem tw_82 : (.initialized RJ15 : Cond) ∈ lw_t2 := t2_1 (List.mem_of_getElem? (i := 16) rfl) rfl
theorem tw_83 : (.initialized RJ3 : Cond) ∈ lw_t2 := t2_1 (List.mem_of_getElem? (i := 17) rfl) rfl
theorem tw_84 : (.initialized RX0 : Cond) ∈ lw_t2 := t2_1 (List.mem_of_getElem? (i := 18) rfl) rfl
theorem tw_85 : (.initialized RX1 : Cond) ∈ lw_t2 := t2_1 (List.mem_of_getElem? (i := 19) rfl) rfl
theorem tw_86 : (.initialized RX6 : Cond) ∈ lw_t2 := t2_1 (List.mem_of_getElem? (i := 20) rfl) rfl
theorem tw_87 : (.initialized RX9 : Cond) ∈ lw_t2 := t2_1 (List.mem_of_getElem? (i := 21) rfl) rfl
theorem tw_88 : (.initialized RJ6 : Cond) ∈ lw_t2 := t2_1 (List.mem_of_getElem? (i := 22) rfl) rfl
theorem tw_89 : (.initialized RJ13 : Cond) ∈ lw_t2 := t2_1 (List.mem_of_getElem? (i := 23) rfl) rfl
theorem tw_90 : (.initialized RX4 : Cond) ∈ lw_t2 := t2_1 (List.mem_of_getElem? (i := 24) rfl) rfl
theorem tw_91 : (.classLink RL 7 RX11 : Cond) ∈ lw_t2 := t2_1 (List.mem_of_getElem? (i := 25) rfl) rfl
theorem tw_92 : (.instantiable RX11 14 : Cond) ∈ lw_t2 := t2_1 (List.mem_of_getElem? (i := 26) rfl) rfl
theorem tw_93 : (.methodLink RL 9 yX11_init : Cond) ∈ lw_t2 := t2_1 (List.mem_of_getElem? (i := 27) rfl) rfl
theorem tw_94 : (.instanceMethod yX11_init : Cond) ∈ lw_t2 := t2_1 (List.mem_of_getElem? (i := 28) rfl) rfl
theorem tw_95 : (.code yX11_init cX11_init 1 none : Cond) ∈ lw_t2 := t2_1 (List.mem_of_getElem? (i := 29) rfl) rfl
theorem tw_96 : (.methodLink RX11 1 ⟨"java/lang/Object", "<init>", "()V"⟩ : Cond) ∈ lw_t2 := t2_1 (List.mem_of_getElem? (i := 30) rfl) rfl
theorem tw_97 : (.instanceMethod ⟨"java/lang/Object", "<init>", "()V"⟩ : Cond) ∈ lw_t2 := t2_1 (List.mem_of_getElem? (i := 31) rfl) rfl
theorem tw_99 : (.classLink RX11 7 RX3 : Cond) ∈ lw_t2 := t2_1 (List.mem_of_getElem? (i := 33) rfl) rfl
theorem tw_100 : (.instantiable RX3 9 : Cond) ∈ lw_t2 := t2_1 (List.mem_of_getElem? (i := 34) rfl) rfl
theorem tw_101 : (.methodLink RX11 9 yX3_init : Cond) ∈ lw_t2 := t2_1 (List.mem_of_getElem? (i := 35) rfl) rfl
theorem tw_102 : (.instanceMethod yX3_init : Cond) ∈ lw_t2 := t2_1 (List.mem_of_getElem? (i := 36) rfl) rfl
theorem tw_103 : (.code yX3_init cX3_init 1 none : Cond) ∈ lw_t2 := t2_1 (List.mem_of_getElem? (i := 37) rfl) rfl
theorem tw_104 : (.methodLink RX3 3 ⟨"java/lang/Object", "<init>", "()V"⟩ : Cond) ∈ lw_t2 := t2_1 (List.mem_of_getElem? (i := 38) rfl) rfl
theorem tw_105 : (.classLink RX3 9 RJx4a65c : Cond) ∈ lw_t2 := t2_1 (List.mem_of_getElem? (i := 39) rfl) rfl
theorem tw_106 : (.instantiable RJx4a65c 3 : Cond) ∈ lw_t2 := t2_1 (List.mem_of_getElem? (i := 40) rfl) rfl
theorem tw_107 : (.methodLink RX3 11 yJx4a65c_init_da8c8 : Cond) ∈ lw_t2 := t2_1 (List.mem_of_getElem? (i := 41) rfl) rfl
theorem tw_108 : (.instanceMethod yJx4a65c_init_da8c8 : Cond) ∈ lw_t2 := t2_1 (List.mem_of_getElem? (i := 42) rfl) rfl
theorem tw_109 : (.code yJx4a65c_init_da8c8 cJx4a65c_init_da8c8 1 none : Cond) ∈ lw_t2 := t2_1 (List.mem_of_getElem? (i := 43) rfl) rfl
theorem tw_110 : (.methodLink RJx4a65c 1 yJxc12de_init_da8c8 : Cond) ∈ lw_t2 := t2_1 (List.mem_of_getElem? (i := 44) rfl) rfl
theorem tw_111 : (.instanceMethod yJxc12de_init_da8c8 : Cond) ∈ lw_t2 := t2_1 (List.mem_of_getElem? (i := 45) rfl) rfl
theorem tw_112 : (.code yJxc12de_init_da8c8 cJxc12de_init_da8c8 1 none : Cond) ∈ lw_t2 := t2_1 (List.mem_of_getElem? (i := 46) rfl) rfl
theorem tw_113 : (.methodLink RJxc12de 1 yJxa1e45_init_da8c8 : Cond) ∈ lw_t2 := t2_1 (List.mem_of_getElem? (i := 47) rfl) rfl
theorem tw_114 : (.instanceMethod yJxa1e45_init_da8c8 : Cond) ∈ lw_t2 := t2_1 (List.mem_of_getElem? (i := 48) rfl) rfl
theorem tw_115 : (.code yJxa1e45_init_da8c8 cJxa1e45_init_da8c8 1 none : Cond) ∈ lw_t2 := t2_1 (List.mem_of_getElem? (i := 49) rfl) rfl
theorem tw_116 : (.methodLink RJxa1e45 1 ⟨"java/lang/Object", "<init>", "()V"⟩ : Cond) ∈ lw_t2 := t2_1 (List.mem_of_getElem? (i := 50) rfl) rfl
theorem tw_117 : (.fieldLink RJx4a65c 39 "java/util/ArrayList" "DEFAULTCAPACITY_EMPTY_ELEMENTDATA" "[Ljava/lang/Object;" : Cond) ∈ lw_t2 := t2_1 (List.mem_of_getElem? (i := 51) rfl) rfl
theorem tw_119 : (.fieldLink RJx4a65c 9 "java/util/ArrayList" "elementData" "[Ljava/lang/Object;" : Cond) ∈ lw_t2 := t2_1 (List.mem_of_getElem? (i := 53) rfl) rfl
theorem tw_120 : (.fieldLink RJx4a65c 48 "java/util/ArrayList" "size" "I" : Cond) ∈ lw_t2 := t2_1 (List.mem_of_getElem? (i := 54) rfl) rfl
theorem tw_121 : (.fieldLink RJxc12de 7 "java/util/AbstractList" "modCount" "I" : Cond) ∈ lw_t2 := t2_1 (List.mem_of_getElem? (i := 55) rfl) rfl
theorem tw_122 : (.fieldLink RJx4a65c 63 "java/util/ArrayList" "modCount" "I" : Cond) ∈ lw_t2 := t2_1 (List.mem_of_getElem? (i := 56) rfl) rfl
theorem tw_123 : (.sameField "java/util/ArrayList" "java/util/AbstractList" "modCount" "I" : Cond) ∈ lw_t2 := t2_1 (List.mem_of_getElem? (i := 57) rfl) rfl
theorem tw_131 : (.classLink RX3 35 RX5 : Cond) ∈ lw_t2 := t2_1 (List.mem_of_getElem? (i := 65) rfl) rfl
theorem tw_132 : (.instantiable RX5 8 : Cond) ∈ lw_t2 := t2_1 (List.mem_of_getElem? (i := 66) rfl) rfl
theorem tw_133 : (.methodLink RX3 37 yX5_init : Cond) ∈ lw_t2 := t2_1 (List.mem_of_getElem? (i := 67) rfl) rfl
theorem tw_134 : (.instanceMethod yX5_init : Cond) ∈ lw_t2 := t2_1 (List.mem_of_getElem? (i := 68) rfl) rfl
theorem tw_135 : (.code yX5_init cX5_init 5 none : Cond) ∈ lw_t2 := t2_1 (List.mem_of_getElem? (i := 69) rfl) rfl
theorem tw_136 : (.methodLink RX5 3 ⟨"java/lang/Object", "<init>", "()V"⟩ : Cond) ∈ lw_t2 := t2_1 (List.mem_of_getElem? (i := 70) rfl) rfl
theorem tw_137 : (.fieldLink RX5 9 "EarPaper$Node" "on" "LEarPaper$Node;" : Cond) ∈ lw_t2 := t2_1 (List.mem_of_getElem? (i := 71) rfl) rfl
theorem tw_138 : (.fieldLink RX11 109 "EarPaper$Node" "on" "LEarPaper$Node;" : Cond) ∈ lw_t2 := t2_1 (List.mem_of_getElem? (i := 72) rfl) rfl
theorem tw_139 : (.fieldLink RX5 15 "EarPaper$Node" "wire" "I" : Cond) ∈ lw_t2 := t2_1 (List.mem_of_getElem? (i := 73) rfl) rfl
theorem tw_140 : (.fieldLink RX5 19 "EarPaper$Node" "path" "I" : Cond) ∈ lw_t2 := t2_1 (List.mem_of_getElem? (i := 74) rfl) rfl
theorem tw_141 : (.fieldLink RX3 130 "EarPaper$Node" "path" "I" : Cond) ∈ lw_t2 := t2_1 (List.mem_of_getElem? (i := 75) rfl) rfl
theorem tw_142 : (.fieldLink RX5 29 "EarPaper$Node" "boost" "I" : Cond) ∈ lw_t2 := t2_1 (List.mem_of_getElem? (i := 76) rfl) rfl
theorem tw_143 : (.fieldLink RX11 106 "EarPaper$Node" "boost" "I" : Cond) ∈ lw_t2 := t2_1 (List.mem_of_getElem? (i := 77) rfl) rfl
theorem tw_144 : (.fieldLink RX3 147 "EarPaper$Node" "gain" "I" : Cond) ∈ lw_t2 := t2_1 (List.mem_of_getElem? (i := 78) rfl) rfl
theorem tw_145 : (.fieldLink RX11 264 "EarPaper$Node" "gain" "I" : Cond) ∈ lw_t2 := t2_1 (List.mem_of_getElem? (i := 79) rfl) rfl
theorem tw_146 : (.fieldLink RX5 32 "EarPaper$Node" "extra" "I" : Cond) ∈ lw_t2 := t2_1 (List.mem_of_getElem? (i := 80) rfl) rfl
theorem tw_147 : (.fieldLink RX3 150 "EarPaper$Node" "extra" "I" : Cond) ∈ lw_t2 := t2_1 (List.mem_of_getElem? (i := 81) rfl) rfl
theorem tw_148 : (.fieldLink RX5 25 "EarPaper$Node" "severed" "Z" : Cond) ∈ lw_t2 := t2_1 (List.mem_of_getElem? (i := 82) rfl) rfl
theorem tw_149 : (.fieldLink RX3 54 "EarPaper$Node" "severed" "Z" : Cond) ∈ lw_t2 := t2_1 (List.mem_of_getElem? (i := 83) rfl) rfl
theorem tw_150 : (.fieldLink RX1 23 "EarPaper$Node" "volume" "I" : Cond) ∈ lw_t2 := t2_1 (List.mem_of_getElem? (i := 84) rfl) rfl
theorem tw_151 : (.fieldLink RX5 22 "EarPaper$Node" "volume" "I" : Cond) ∈ lw_t2 := t2_1 (List.mem_of_getElem? (i := 85) rfl) rfl
theorem tw_152 : (.fieldLink RX11 126 "EarPaper$Node" "volume" "I" : Cond) ∈ lw_t2 := t2_1 (List.mem_of_getElem? (i := 86) rfl) rfl
theorem tw_170 : (.arrayClass .long : Cond) ∈ lw_t2 := t2_1 (List.mem_of_getElem? (i := 104) rfl) rfl
theorem tw_171 : (.methodLink RX3 40 yJx4a65c_add_9ea2d : Cond) ∈ lw_t2 := t2_1 (List.mem_of_getElem? (i := 105) rfl) rfl
theorem tw_172 : (.instanceMethod yJx4a65c_add_9ea2d : Cond) ∈ lw_t2 := t2_1 (List.mem_of_getElem? (i := 106) rfl) rfl
theorem tw_173 : (.selects RJx4a65c yJx4a65c_add_9ea2d yJx4a65c_add_9ea2d : Cond) ∈ lw_t2 := t2_1 (List.mem_of_getElem? (i := 107) rfl) rfl
theorem tw_174 : (.code yJx4a65c_add_9ea2d cJx4a65c_add_9ea2d 2 (some .boolean) : Cond) ∈ lw_t2 := t2_1 (List.mem_of_getElem? (i := 108) rfl) rfl
theorem tw_175 : (.methodLink RJx4a65c 131 yJx4a65c_add_72be8 : Cond) ∈ lw_t2 := t2_1 (List.mem_of_getElem? (i := 109) rfl) rfl
theorem tw_177 : (.instanceMethod yJx4a65c_add_72be8 : Cond) ∈ lw_t2 := t2_1 (List.mem_of_getElem? (i := 111) rfl) rfl
theorem tw_178 : (.code yJx4a65c_add_72be8 cJx4a65c_add_72be8 4 none : Cond) ∈ lw_t2 := t2_1 (List.mem_of_getElem? (i := 112) rfl) rfl
theorem tw_179 : (.methodLink RJx4a65c 129 yJx4a65c_grow_d5877 : Cond) ∈ lw_t2 := t2_1 (List.mem_of_getElem? (i := 113) rfl) rfl
theorem tw_181 : (.instanceMethod yJx4a65c_grow_d5877 : Cond) ∈ lw_t2 := t2_1 (List.mem_of_getElem? (i := 115) rfl) rfl
theorem tw_182 : (.code yJx4a65c_grow_d5877 cJx4a65c_grow_d5877 1 (some (.array (.object "java/lang/Object"))) : Cond) ∈ lw_t2 := t2_1 (List.mem_of_getElem? (i := 116) rfl) rfl
theorem tw_183 : (.methodLink RJx4a65c 69 yJx4a65c_grow_92f84 : Cond) ∈ lw_t2 := t2_1 (List.mem_of_getElem? (i := 117) rfl) rfl
theorem tw_185 : (.instanceMethod yJx4a65c_grow_92f84 : Cond) ∈ lw_t2 := t2_1 (List.mem_of_getElem? (i := 119) rfl) rfl
theorem tw_186 : (.code yJx4a65c_grow_92f84 cJx4a65c_grow_92f84 4 (some (.array (.object "java/lang/Object"))) : Cond) ∈ lw_t2 := t2_1 (List.mem_of_getElem? (i := 120) rfl) rfl
theorem tw_187 : (.methodLink RJx4a65c 73 yJ8_newLength_cabcc : Cond) ∈ lw_t2 := t2_1 (List.mem_of_getElem? (i := 121) rfl) rfl
theorem tw_188 : (.static yJ8_newLength_cabcc : Cond) ∈ lw_t2 := t2_1 (List.mem_of_getElem? (i := 122) rfl) rfl
theorem tw_189 : (.code yJ8_newLength_cabcc cJ8_newLength_cabcc 4 (some .int) : Cond) ∈ lw_t2 := t2_1 (List.mem_of_getElem? (i := 123) rfl) rfl
theorem tw_190 : (.methodLink RJ8 194 yJ9_max_7cf53 : Cond) ∈ lw_t2 := t2_1 (List.mem_of_getElem? (i := 124) rfl) rfl
theorem tw_191 : (.static yJ9_max_7cf53 : Cond) ∈ lw_t2 := t2_1 (List.mem_of_getElem? (i := 125) rfl) rfl
theorem tw_192 : (.code yJ9_max_7cf53 cJ9_max_7cf53 2 (some .int) : Cond) ∈ lw_t2 := t2_1 (List.mem_of_getElem? (i := 126) rfl) rfl
theorem tw_193 : (.constant RJ8 200 (2147483639) : Cond) ∈ lw_t2 := t2_1 (List.mem_of_getElem? (i := 127) rfl) rfl
theorem tw_197 : (.methodLink RJx4a65c 66 yJ7_copyOf_1904c : Cond) ∈ lw_t2 := t2_1 (List.mem_of_getElem? (i := 131) rfl) rfl
theorem tw_198 : (.static yJ7_copyOf_1904c : Cond) ∈ lw_t2 := t2_1 (List.mem_of_getElem? (i := 132) rfl) rfl
theorem tw_199 : (.code yJ7_copyOf_1904c cJ7_copyOf_1904c 2 (some (.array (.object "java/lang/Object"))) : Cond) ∈ lw_t2 := t2_1 (List.mem_of_getElem? (i := 133) rfl) rfl
theorem tw_200 : (.methodLink RJ7 86 ⟨"java/lang/Object", "getClass", "()Ljava/lang/Class;"⟩ : Cond) ∈ lw_t2 := t2_1 (List.mem_of_getElem? (i := 134) rfl) rfl
theorem tw_201 : (.instanceMethod ⟨"java/lang/Object", "getClass", "()Ljava/lang/Class;"⟩ : Cond) ∈ lw_t2 := t2_1 (List.mem_of_getElem? (i := 135) rfl) rfl
theorem tw_217 : (.native ⟨"java/lang/Object", "getClass", "()Ljava/lang/Class;"⟩ : Cond) ∈ lw_t2 := t2_1 (List.mem_of_getElem? (i := 151) rfl) rfl
theorem tw_218 : (.methodLink RJ7 300 yJ7_copyOf_6403c : Cond) ∈ lw_t2 := t2_1 (List.mem_of_getElem? (i := 152) rfl) rfl
theorem tw_219 : (.static yJ7_copyOf_6403c : Cond) ∈ lw_t2 := t2_1 (List.mem_of_getElem? (i := 153) rfl) rfl
theorem tw_220 : (.code yJ7_copyOf_6403c cJ7_copyOf_6403c 4 (some (.array (.object "java/lang/Object"))) : Cond) ∈ lw_t2 := t2_1 (List.mem_of_getElem? (i := 154) rfl) rfl
theorem tw_221 : (.classLink RJ7 110 "[Ljava/lang/Object;" : Cond) ∈ lw_t2 := t2_1 (List.mem_of_getElem? (i := 155) rfl) rfl
theorem tw_223 : (.classLink RJ7 2 "java/lang/Object" : Cond) ∈ lw_t2 := t2_1 (List.mem_of_getElem? (i := 157) rfl) rfl
theorem tw_224 : (.methodLink RJ7 304 yJ9_min_7cf53 : Cond) ∈ lw_t2 := t2_1 (List.mem_of_getElem? (i := 158) rfl) rfl
theorem tw_225 : (.static yJ9_min_7cf53 : Cond) ∈ lw_t2 := t2_1 (List.mem_of_getElem? (i := 159) rfl) rfl
theorem tw_226 : (.code yJ9_min_7cf53 cJ9_min_7cf53 2 (some .int) : Cond) ∈ lw_t2 := t2_1 (List.mem_of_getElem? (i := 160) rfl) rfl
theorem tw_227 : (.methodLink RJ7 150 ⟨"java/lang/System", "arraycopy", "(Ljava/lang/Object;ILjava/lang/Object;II)V"⟩ : Cond) ∈ lw_t2 := t2_1 (List.mem_of_getElem? (i := 161) rfl) rfl
theorem tw_228 : (.static ⟨"java/lang/System", "arraycopy", "(Ljava/lang/Object;ILjava/lang/Object;II)V"⟩ : Cond) ∈ lw_t2 := t2_1 (List.mem_of_getElem? (i := 162) rfl) rfl
theorem tw_229 : (.native ⟨"java/lang/System", "arraycopy", "(Ljava/lang/Object;ILjava/lang/Object;II)V"⟩ : Cond) ∈ lw_t2 := t2_1 (List.mem_of_getElem? (i := 163) rfl) rfl
theorem tw_230 : (.methodLink RJx4a65c 79 yJ9_max_7cf53 : Cond) ∈ lw_t2 := t2_1 (List.mem_of_getElem? (i := 164) rfl) rfl
theorem tw_231 : (.classLink RJx4a65c 7 "java/lang/Object" : Cond) ∈ lw_t2 := t2_1 (List.mem_of_getElem? (i := 165) rfl) rfl
theorem tw_232 : (.fieldLink RX3 12 "EarPaper$Net" "nodes" "Ljava/util/ArrayList;" : Cond) ∈ lw_t2 := t2_1 (List.mem_of_getElem? (i := 166) rfl) rfl
theorem tw_233 : (.fieldLink RX11 90 "EarPaper$Net" "nodes" "Ljava/util/ArrayList;" : Cond) ∈ lw_t2 := t2_1 (List.mem_of_getElem? (i := 167) rfl) rfl
theorem tw_234 : (.fieldLink RX3 18 "EarPaper$Net" "cuts" "Ljava/util/ArrayList;" : Cond) ∈ lw_t2 := t2_1 (List.mem_of_getElem? (i := 168) rfl) rfl
theorem tw_235 : (.fieldLink RX11 113 "EarPaper$Net" "cuts" "Ljava/util/ArrayList;" : Cond) ∈ lw_t2 := t2_1 (List.mem_of_getElem? (i := 169) rfl) rfl
theorem tw_236 : (.fieldLink RX3 21 "EarPaper$Net" "homes" "Ljava/util/ArrayList;" : Cond) ∈ lw_t2 := t2_1 (List.mem_of_getElem? (i := 170) rfl) rfl
theorem tw_237 : (.fieldLink RX11 129 "EarPaper$Net" "homes" "Ljava/util/ArrayList;" : Cond) ∈ lw_t2 := t2_1 (List.mem_of_getElem? (i := 171) rfl) rfl
theorem tw_238 : (.fieldLink RX3 24 "EarPaper$Net" "chances" "Ljava/util/ArrayList;" : Cond) ∈ lw_t2 := t2_1 (List.mem_of_getElem? (i := 172) rfl) rfl
theorem tw_239 : (.fieldLink RX11 267 "EarPaper$Net" "chances" "Ljava/util/ArrayList;" : Cond) ∈ lw_t2 := t2_1 (List.mem_of_getElem? (i := 173) rfl) rfl
theorem tw_240 : (.fieldLink RX11 76 "EarPaper$Net" "weather" "I" : Cond) ∈ lw_t2 := t2_1 (List.mem_of_getElem? (i := 174) rfl) rfl
theorem tw_241 : (.fieldLink RX3 153 "EarPaper$Net" "weather" "I" : Cond) ∈ lw_t2 := t2_1 (List.mem_of_getElem? (i := 175) rfl) rfl
theorem tw_242 : (.fieldLink RX3 27 "EarPaper$Net" "least" "I" : Cond) ∈ lw_t2 := t2_1 (List.mem_of_getElem? (i := 176) rfl) rfl
theorem tw_243 : (.fieldLink RX11 138 "EarPaper$Net" "least" "I" : Cond) ∈ lw_t2 := t2_1 (List.mem_of_getElem? (i := 177) rfl) rfl
theorem tw_244 : (.fieldLink RX3 93 "EarPaper$Net" "sure" "I" : Cond) ∈ lw_t2 := t2_1 (List.mem_of_getElem? (i := 178) rfl) rfl
theorem tw_245 : (.fieldLink RX11 203 "EarPaper$Net" "sure" "I" : Cond) ∈ lw_t2 := t2_1 (List.mem_of_getElem? (i := 179) rfl) rfl
theorem tw_246 : (.fieldLink RX3 96 "EarPaper$Net" "most" "I" : Cond) ∈ lw_t2 := t2_1 (List.mem_of_getElem? (i := 180) rfl) rfl
theorem tw_247 : (.fieldLink RX11 206 "EarPaper$Net" "most" "I" : Cond) ∈ lw_t2 := t2_1 (List.mem_of_getElem? (i := 181) rfl) rfl
theorem tw_248 : (.fieldLink RX3 31 "EarPaper$Net" "listeners" "[J" : Cond) ∈ lw_t2 := t2_1 (List.mem_of_getElem? (i := 182) rfl) rfl
theorem tw_268 : (.classLink RX11 16 RX2 : Cond) ∈ lw_t2 := t2_1 (List.mem_of_getElem? (i := 202) rfl) rfl
theorem tw_269 : (.instantiable RX2 4 : Cond) ∈ lw_t2 := t2_1 (List.mem_of_getElem? (i := 203) rfl) rfl
theorem tw_271 : (.instanceMethod yX2_init : Cond) ∈ lw_t2 := t2_1 (List.mem_of_getElem? (i := 205) rfl) rfl
theorem tw_272 : (.code yX2_init cX2_init 1 none : Cond) ∈ lw_t2 := t2_1 (List.mem_of_getElem? (i := 206) rfl) rfl
theorem tw_273 : (.methodLink RX2 3 ⟨"java/lang/Object", "<init>", "()V"⟩ : Cond) ∈ lw_t2 := t2_1 (List.mem_of_getElem? (i := 207) rfl) rfl
theorem tw_274 : (.classLink RX2 9 RJx4a65c : Cond) ∈ lw_t2 := t2_1 (List.mem_of_getElem? (i := 208) rfl) rfl
theorem tw_275 : (.methodLink RX2 11 yJx4a65c_init_da8c8 : Cond) ∈ lw_t2 := t2_1 (List.mem_of_getElem? (i := 209) rfl) rfl
theorem tw_276 : (.fieldLink RX2 12 "EarPaper$Log" "spans" "Ljava/util/ArrayList;" : Cond) ∈ lw_t2 := t2_1 (List.mem_of_getElem? (i := 210) rfl) rfl
theorem tw_277 : (.fieldLink RX2 28 "EarPaper$Log" "now" "I" : Cond) ∈ lw_t2 := t2_1 (List.mem_of_getElem? (i := 211) rfl) rfl
theorem tw_278 : (.fieldLink RX11 71 "EarPaper$Log" "now" "I" : Cond) ∈ lw_t2 := t2_1 (List.mem_of_getElem? (i := 212) rfl) rfl
theorem tw_279 : (.fieldLink RX2 31 "EarPaper$Log" "deadOnes" "I" : Cond) ∈ lw_t2 := t2_1 (List.mem_of_getElem? (i := 213) rfl) rfl
theorem tw_280 : (.fieldLink RX11 322 "EarPaper$Log" "deadOnes" "I" : Cond) ∈ lw_t2 := t2_1 (List.mem_of_getElem? (i := 214) rfl) rfl
theorem tw_281 : (.fieldLink RX2 40 "EarPaper$Log" "soldOnes" "I" : Cond) ∈ lw_t2 := t2_1 (List.mem_of_getElem? (i := 215) rfl) rfl
theorem tw_282 : (.fieldLink RX11 328 "EarPaper$Log" "soldOnes" "I" : Cond) ∈ lw_t2 := t2_1 (List.mem_of_getElem? (i := 216) rfl) rfl
theorem tw_292 : (.classLink RX11 23 RJx4a65c : Cond) ∈ lw_t2 := t2_1 (List.mem_of_getElem? (i := 226) rfl) rfl
theorem tw_293 : (.methodLink RX11 25 yJx4a65c_init_da8c8 : Cond) ∈ lw_t2 := t2_1 (List.mem_of_getElem? (i := 227) rfl) rfl
theorem tw_294 : (.classLink RX11 36 RX10 : Cond) ∈ lw_t2 := t2_1 (List.mem_of_getElem? (i := 228) rfl) rfl
theorem tw_295 : (.instantiable RX10 5 : Cond) ∈ lw_t2 := t2_1 (List.mem_of_getElem? (i := 229) rfl) rfl
theorem tw_297 : (.instanceMethod yX10_init : Cond) ∈ lw_t2 := t2_1 (List.mem_of_getElem? (i := 231) rfl) rfl
theorem tw_298 : (.code yX10_init cX10_init 1 none : Cond) ∈ lw_t2 := t2_1 (List.mem_of_getElem? (i := 232) rfl) rfl
theorem tw_299 : (.methodLink RX10 3 ⟨"java/lang/Object", "<init>", "()V"⟩ : Cond) ∈ lw_t2 := t2_1 (List.mem_of_getElem? (i := 233) rfl) rfl
theorem tw_300 : (.fieldLink RX10 9 "EarPaper$Text" "bytes" "[I" : Cond) ∈ lw_t2 := t2_1 (List.mem_of_getElem? (i := 234) rfl) rfl
theorem tw_301 : (.fieldLink RX10 15 "EarPaper$Text" "code" "[I" : Cond) ∈ lw_t2 := t2_1 (List.mem_of_getElem? (i := 235) rfl) rfl
theorem tw_302 : (.fieldLink RX10 18 "EarPaper$Text" "length" "I" : Cond) ∈ lw_t2 := t2_1 (List.mem_of_getElem? (i := 236) rfl) rfl
theorem tw_303 : (.fieldLink RX11 214 "EarPaper$Text" "length" "I" : Cond) ∈ lw_t2 := t2_1 (List.mem_of_getElem? (i := 237) rfl) rfl
theorem tw_304 : (.fieldLink RX10 25 "EarPaper$Text" "codeLength" "I" : Cond) ∈ lw_t2 := t2_1 (List.mem_of_getElem? (i := 238) rfl) rfl
theorem tw_305 : (.fieldLink RX10 22 "EarPaper$Text" "place" "I" : Cond) ∈ lw_t2 := t2_1 (List.mem_of_getElem? (i := 239) rfl) rfl
theorem tw_306 : (.fieldLink RX11 224 "EarPaper$Text" "place" "I" : Cond) ∈ lw_t2 := t2_2 (List.mem_of_getElem? (i := 0) rfl) rfl
theorem tw_318 : (.arrayClass .int : Cond) ∈ lw_t2 := t2_2 (List.mem_of_getElem? (i := 12) rfl) rfl
theorem tw_319 : (.classLink RX11 43 RX7 : Cond) ∈ lw_t2 := t2_2 (List.mem_of_getElem? (i := 13) rfl) rfl
theorem tw_320 : (.instantiable RX7 10 : Cond) ∈ lw_t2 := t2_2 (List.mem_of_getElem? (i := 14) rfl) rfl
theorem tw_322 : (.instanceMethod yX7_init : Cond) ∈ lw_t2 := t2_2 (List.mem_of_getElem? (i := 16) rfl) rfl
theorem tw_323 : (.code yX7_init cX7_init 1 none : Cond) ∈ lw_t2 := t2_2 (List.mem_of_getElem? (i := 17) rfl) rfl
theorem tw_324 : (.methodLink RX7 3 ⟨"java/lang/Object", "<init>", "()V"⟩ : Cond) ∈ lw_t2 := t2_2 (List.mem_of_getElem? (i := 18) rfl) rfl
theorem tw_325 : (.fieldLink RX7 9 "EarPaper$Scale" "stack" "[I" : Cond) ∈ lw_t2 := t2_2 (List.mem_of_getElem? (i := 19) rfl) rfl
theorem tw_326 : (.fieldLink RX7 15 "EarPaper$Scale" "top" "I" : Cond) ∈ lw_t2 := t2_2 (List.mem_of_getElem? (i := 20) rfl) rfl
theorem tw_327 : (.fieldLink RX7 36 "EarPaper$Scale" "kind" "I" : Cond) ∈ lw_t2 := t2_2 (List.mem_of_getElem? (i := 21) rfl) rfl
theorem tw_328 : (.fieldLink RX11 351 "EarPaper$Scale" "kind" "I" : Cond) ∈ lw_t2 := t2_2 (List.mem_of_getElem? (i := 22) rfl) rfl
theorem tw_329 : (.fieldLink RX7 39 "EarPaper$Scale" "hour" "I" : Cond) ∈ lw_t2 := t2_2 (List.mem_of_getElem? (i := 23) rfl) rfl
theorem tw_330 : (.fieldLink RX11 355 "EarPaper$Scale" "hour" "I" : Cond) ∈ lw_t2 := t2_2 (List.mem_of_getElem? (i := 24) rfl) rfl
theorem tw_331 : (.fieldLink RX7 42 "EarPaper$Scale" "voice" "I" : Cond) ∈ lw_t2 := t2_2 (List.mem_of_getElem? (i := 25) rfl) rfl
theorem tw_332 : (.fieldLink RX11 358 "EarPaper$Scale" "voice" "I" : Cond) ∈ lw_t2 := t2_2 (List.mem_of_getElem? (i := 26) rfl) rfl
theorem tw_333 : (.fieldLink RX7 45 "EarPaper$Scale" "sure" "I" : Cond) ∈ lw_t2 := t2_2 (List.mem_of_getElem? (i := 27) rfl) rfl
theorem tw_334 : (.fieldLink RX11 359 "EarPaper$Scale" "sure" "I" : Cond) ∈ lw_t2 := t2_2 (List.mem_of_getElem? (i := 28) rfl) rfl
theorem tw_335 : (.fieldLink RX7 48 "EarPaper$Scale" "most" "I" : Cond) ∈ lw_t2 := t2_2 (List.mem_of_getElem? (i := 29) rfl) rfl
theorem tw_336 : (.fieldLink RX11 360 "EarPaper$Scale" "most" "I" : Cond) ∈ lw_t2 := t2_2 (List.mem_of_getElem? (i := 30) rfl) rfl
theorem tw_337 : (.fieldLink RX7 51 "EarPaper$Scale" "weather" "I" : Cond) ∈ lw_t2 := t2_2 (List.mem_of_getElem? (i := 31) rfl) rfl
theorem tw_338 : (.fieldLink RX11 361 "EarPaper$Scale" "weather" "I" : Cond) ∈ lw_t2 := t2_2 (List.mem_of_getElem? (i := 32) rfl) rfl
theorem tw_339 : (.fieldLink RX7 54 "EarPaper$Scale" "age" "I" : Cond) ∈ lw_t2 := t2_2 (List.mem_of_getElem? (i := 33) rfl) rfl
theorem tw_340 : (.fieldLink RX11 362 "EarPaper$Scale" "age" "I" : Cond) ∈ lw_t2 := t2_2 (List.mem_of_getElem? (i := 34) rfl) rfl
theorem tw_341 : (.fieldLink RX7 57 "EarPaper$Scale" "homes" "I" : Cond) ∈ lw_t2 := t2_2 (List.mem_of_getElem? (i := 35) rfl) rfl
theorem tw_342 : (.fieldLink RX11 365 "EarPaper$Scale" "homes" "I" : Cond) ∈ lw_t2 := t2_2 (List.mem_of_getElem? (i := 36) rfl) rfl
theorem tw_364 : (.fieldLink RX11 10 "EarPaper" "net" "LEarPaper$Net;" : Cond) ∈ lw_t2 := t2_2 (List.mem_of_getElem? (i := 58) rfl) rfl
theorem tw_365 : (.fieldLink RX11 19 "EarPaper" "log" "LEarPaper$Log;" : Cond) ∈ lw_t2 := t2_2 (List.mem_of_getElem? (i := 59) rfl) rfl
theorem tw_366 : (.fieldLink RX11 26 "EarPaper" "readers" "Ljava/util/ArrayList;" : Cond) ∈ lw_t2 := t2_2 (List.mem_of_getElem? (i := 60) rfl) rfl
theorem tw_367 : (.fieldLink RX11 30 "EarPaper" "terms" "Ljava/util/ArrayList;" : Cond) ∈ lw_t2 := t2_2 (List.mem_of_getElem? (i := 61) rfl) rfl
theorem tw_368 : (.fieldLink RX11 33 "EarPaper" "allNews" "Ljava/util/ArrayList;" : Cond) ∈ lw_t2 := t2_2 (List.mem_of_getElem? (i := 62) rfl) rfl
theorem tw_369 : (.fieldLink RX11 39 "EarPaper" "tape" "LEarPaper$Text;" : Cond) ∈ lw_t2 := t2_2 (List.mem_of_getElem? (i := 63) rfl) rfl
theorem tw_370 : (.fieldLink RX11 46 "EarPaper" "scale" "LEarPaper$Scale;" : Cond) ∈ lw_t2 := t2_2 (List.mem_of_getElem? (i := 64) rfl) rfl
theorem tw_371 : (.fieldLink RX11 50 "EarPaper" "adverts" "[I" : Cond) ∈ lw_t2 := t2_2 (List.mem_of_getElem? (i := 65) rfl) rfl
theorem tw_372 : (.fieldLink RX11 54 "EarPaper" "row" "[I" : Cond) ∈ lw_t2 := t2_2 (List.mem_of_getElem? (i := 66) rfl) rfl
theorem tw_373 : (.fieldLink RX11 57 "EarPaper" "refusals" "[I" : Cond) ∈ lw_t2 := t2_2 (List.mem_of_getElem? (i := 67) rfl) rfl
theorem tw_374 : (.fieldLink RX11 312 "EarPaper" "advertCount" "I" : Cond) ∈ lw_t2 := t2_2 (List.mem_of_getElem? (i := 68) rfl) rfl
theorem tw_375 : (.fieldLink RX11 315 "EarPaper" "rowLength" "I" : Cond) ∈ lw_t2 := t2_2 (List.mem_of_getElem? (i := 69) rfl) rfl
theorem tw_376 : (.fieldLink RX11 60 "EarPaper" "longest" "I" : Cond) ∈ lw_t2 := t2_2 (List.mem_of_getElem? (i := 70) rfl) rfl
theorem tw_377 : (.fieldLink RX11 64 "EarPaper" "rest" "I" : Cond) ∈ lw_t2 := t2_2 (List.mem_of_getElem? (i := 71) rfl) rfl
theorem tw_407 : (.methodLink RL 13 yX11_pass : Cond) ∈ lw_t2 := t2_2 (List.mem_of_getElem? (i := 101) rfl) rfl
theorem tw_408 : (.instanceMethod yX11_pass : Cond) ∈ lw_t2 := t2_2 (List.mem_of_getElem? (i := 102) rfl) rfl
theorem tw_409 : (.selects RX11 yX11_pass yX11_pass : Cond) ∈ lw_t2 := t2_2 (List.mem_of_getElem? (i := 103) rfl) rfl
theorem tw_410 : (.code yX11_pass cX11_pass 2 (some .int) : Cond) ∈ lw_t2 := t2_2 (List.mem_of_getElem? (i := 104) rfl) rfl
theorem tw_411 : (.methodLink RX11 67 yX11_refuse : Cond) ∈ lw_t2 := t2_2 (List.mem_of_getElem? (i := 105) rfl) rfl
theorem tw_413 : (.instanceMethod yX11_refuse : Cond) ∈ lw_t2 := t2_2 (List.mem_of_getElem? (i := 107) rfl) rfl
theorem tw_414 : (.code yX11_refuse cX11_refuse 3 (some .int) : Cond) ∈ lw_t2 := t2_2 (List.mem_of_getElem? (i := 108) rfl) rfl
theorem tw_415 : (.classLink RX11 74 RX8 : Cond) ∈ lw_t2 := t2_2 (List.mem_of_getElem? (i := 109) rfl) rfl
theorem tw_416 : (.instantiable RX8 7 : Cond) ∈ lw_t2 := t2_2 (List.mem_of_getElem? (i := 110) rfl) rfl
theorem tw_417 : (.methodLink RX11 79 yX8_init : Cond) ∈ lw_t2 := t2_2 (List.mem_of_getElem? (i := 111) rfl) rfl
theorem tw_418 : (.instanceMethod yX8_init : Cond) ∈ lw_t2 := t2_2 (List.mem_of_getElem? (i := 112) rfl) rfl
theorem tw_419 : (.code yX8_init cX8_init 5 none : Cond) ∈ lw_t2 := t2_2 (List.mem_of_getElem? (i := 113) rfl) rfl
theorem tw_420 : (.methodLink RX8 3 ⟨"java/lang/Object", "<init>", "()V"⟩ : Cond) ∈ lw_t2 := t2_2 (List.mem_of_getElem? (i := 114) rfl) rfl
theorem tw_421 : (.fieldLink RX8 18 "EarPaper$Span" "from" "I" : Cond) ∈ lw_t2 := t2_2 (List.mem_of_getElem? (i := 115) rfl) rfl
theorem tw_422 : (.fieldLink RX2 37 "EarPaper$Span" "from" "I" : Cond) ∈ lw_t2 := t2_2 (List.mem_of_getElem? (i := 116) rfl) rfl
theorem tw_423 : (.fieldLink RX8 21 "EarPaper$Span" "last" "I" : Cond) ∈ lw_t2 := t2_2 (List.mem_of_getElem? (i := 117) rfl) rfl
theorem tw_424 : (.fieldLink RX2 22 "EarPaper$Span" "last" "I" : Cond) ∈ lw_t2 := t2_2 (List.mem_of_getElem? (i := 118) rfl) rfl
theorem tw_425 : (.fieldLink RX11 381 "EarPaper$Span" "last" "I" : Cond) ∈ lw_t2 := t2_2 (List.mem_of_getElem? (i := 119) rfl) rfl
theorem tw_426 : (.fieldLink RX8 24 "EarPaper$Span" "kind" "I" : Cond) ∈ lw_t2 := t2_2 (List.mem_of_getElem? (i := 120) rfl) rfl
theorem tw_427 : (.fieldLink RX2 34 "EarPaper$Span" "kind" "I" : Cond) ∈ lw_t2 := t2_2 (List.mem_of_getElem? (i := 121) rfl) rfl
theorem tw_428 : (.fieldLink RX3 74 "EarPaper$Span" "kind" "I" : Cond) ∈ lw_t2 := t2_2 (List.mem_of_getElem? (i := 122) rfl) rfl
theorem tw_429 : (.fieldLink RX11 196 "EarPaper$Span" "kind" "I" : Cond) ∈ lw_t2 := t2_2 (List.mem_of_getElem? (i := 123) rfl) rfl
theorem tw_430 : (.fieldLink RX8 27 "EarPaper$Span" "weather" "I" : Cond) ∈ lw_t2 := t2_2 (List.mem_of_getElem? (i := 124) rfl) rfl
theorem tw_431 : (.fieldLink RX3 102 "EarPaper$Span" "weather" "I" : Cond) ∈ lw_t2 := t2_2 (List.mem_of_getElem? (i := 125) rfl) rfl
theorem tw_432 : (.fieldLink RX11 209 "EarPaper$Span" "weather" "I" : Cond) ∈ lw_t2 := t2_2 (List.mem_of_getElem? (i := 126) rfl) rfl
theorem tw_433 : (.fieldLink RX8 9 "EarPaper$Span" "reader" "I" : Cond) ∈ lw_t2 := t2_2 (List.mem_of_getElem? (i := 127) rfl) rfl
theorem tw_434 : (.fieldLink RX11 173 "EarPaper$Span" "reader" "I" : Cond) ∈ lw_t2 := t2_2 (List.mem_of_getElem? (i := 128) rfl) rfl
theorem tw_435 : (.fieldLink RX3 99 "EarPaper$Span" "voice" "I" : Cond) ∈ lw_t2 := t2_2 (List.mem_of_getElem? (i := 129) rfl) rfl
theorem tw_436 : (.fieldLink RX11 179 "EarPaper$Span" "voice" "I" : Cond) ∈ lw_t2 := t2_2 (List.mem_of_getElem? (i := 130) rfl) rfl
theorem tw_437 : (.fieldLink RX8 15 "EarPaper$Span" "of" "I" : Cond) ∈ lw_t2 := t2_2 (List.mem_of_getElem? (i := 131) rfl) rfl
theorem tw_438 : (.fieldLink RX11 183 "EarPaper$Span" "of" "I" : Cond) ∈ lw_t2 := t2_2 (List.mem_of_getElem? (i := 132) rfl) rfl
theorem tw_454 : (.methodLink RX11 82 yX2_goBy : Cond) ∈ lw_t2 := t2_2 (List.mem_of_getElem? (i := 148) rfl) rfl
theorem tw_455 : (.instanceMethod yX2_goBy : Cond) ∈ lw_t2 := t2_2 (List.mem_of_getElem? (i := 149) rfl) rfl
theorem tw_456 : (.selects RX2 yX2_goBy yX2_goBy : Cond) ∈ lw_t2 := t2_2 (List.mem_of_getElem? (i := 150) rfl) rfl
theorem tw_457 : (.code yX2_goBy cX2_goBy 2 none : Cond) ∈ lw_t2 := t2_2 (List.mem_of_getElem? (i := 151) rfl) rfl
theorem tw_458 : (.methodLink RX2 18 yJx4a65c_add_9ea2d : Cond) ∈ lw_t2 := t2_2 (List.mem_of_getElem? (i := 152) rfl) rfl
theorem tw_459 : (.methodLink RL 18 yX11_node : Cond) ∈ lw_t2 := t2_2 (List.mem_of_getElem? (i := 153) rfl) rfl
theorem tw_460 : (.instanceMethod yX11_node : Cond) ∈ lw_t2 := t2_2 (List.mem_of_getElem? (i := 154) rfl) rfl
theorem tw_461 : (.selects RX11 yX11_node yX11_node : Cond) ∈ lw_t2 := t2_2 (List.mem_of_getElem? (i := 155) rfl) rfl
theorem tw_462 : (.code yX11_node cX11_node 5 (some .int) : Cond) ∈ lw_t2 := t2_2 (List.mem_of_getElem? (i := 156) rfl) rfl
theorem tw_463 : (.methodLink RX11 86 yX3_nodeOf : Cond) ∈ lw_t2 := t2_2 (List.mem_of_getElem? (i := 157) rfl) rfl
theorem tw_464 : (.instanceMethod yX3_nodeOf : Cond) ∈ lw_t2 := t2_2 (List.mem_of_getElem? (i := 158) rfl) rfl
theorem tw_465 : (.selects RX3 yX3_nodeOf yX3_nodeOf : Cond) ∈ lw_t2 := t2_2 (List.mem_of_getElem? (i := 159) rfl) rfl
theorem tw_466 : (.code yX3_nodeOf cX3_nodeOf 2 (some (.object "EarPaper$Node")) : Cond) ∈ lw_t2 := t2_2 (List.mem_of_getElem? (i := 160) rfl) rfl
theorem tw_467 : (.methodLink RX3 44 yJx4a65c_size_8abf5 : Cond) ∈ lw_t2 := t2_2 (List.mem_of_getElem? (i := 161) rfl) rfl
theorem tw_468 : (.instanceMethod yJx4a65c_size_8abf5 : Cond) ∈ lw_t2 := t2_2 (List.mem_of_getElem? (i := 162) rfl) rfl
theorem tw_469 : (.selects RJx4a65c yJx4a65c_size_8abf5 yJx4a65c_size_8abf5 : Cond) ∈ lw_t2 := t2_2 (List.mem_of_getElem? (i := 163) rfl) rfl
theorem tw_470 : (.code yJx4a65c_size_8abf5 cJx4a65c_size_8abf5 1 (some .int) : Cond) ∈ lw_t2 := t2_2 (List.mem_of_getElem? (i := 164) rfl) rfl
theorem tw_471 : (.methodLink RX3 48 yJx4a65c_get_915e3 : Cond) ∈ lw_t2 := t2_2 (List.mem_of_getElem? (i := 165) rfl) rfl
theorem tw_472 : (.instanceMethod yJx4a65c_get_915e3 : Cond) ∈ lw_t2 := t2_2 (List.mem_of_getElem? (i := 166) rfl) rfl
theorem tw_473 : (.selects RJx4a65c yJx4a65c_get_915e3 yJx4a65c_get_915e3 : Cond) ∈ lw_t2 := t2_2 (List.mem_of_getElem? (i := 167) rfl) rfl
theorem tw_474 : (.code yJx4a65c_get_915e3 cJx4a65c_get_915e3 2 (some (.object "java/lang/Object")) : Cond) ∈ lw_t2 := t2_2 (List.mem_of_getElem? (i := 168) rfl) rfl
theorem tw_475 : (.methodLink RJx4a65c 118 yJ15_checkIndex_7cf53 : Cond) ∈ lw_t2 := t2_2 (List.mem_of_getElem? (i := 169) rfl) rfl
theorem tw_476 : (.static yJ15_checkIndex_7cf53 : Cond) ∈ lw_t2 := t2_2 (List.mem_of_getElem? (i := 170) rfl) rfl
theorem tw_477 : (.code yJ15_checkIndex_7cf53 cJ15_checkIndex_7cf53 2 (some .int) : Cond) ∈ lw_t2 := t2_2 (List.mem_of_getElem? (i := 171) rfl) rfl
theorem tw_478 : (.methodLink RJ15 105 yJ3_checkIndex_8e157 : Cond) ∈ lw_t2 := t2_2 (List.mem_of_getElem? (i := 172) rfl) rfl
theorem tw_479 : (.static yJ3_checkIndex_8e157 : Cond) ∈ lw_t2 := t2_2 (List.mem_of_getElem? (i := 173) rfl) rfl
theorem tw_480 : (.code yJ3_checkIndex_8e157 cJ3_checkIndex_8e157 3 (some .int) : Cond) ∈ lw_t2 := t2_2 (List.mem_of_getElem? (i := 174) rfl) rfl
theorem tw_481 : (.methodLink RJx4a65c 123 yJx4a65c_elementData_915e3 : Cond) ∈ lw_t2 := t2_2 (List.mem_of_getElem? (i := 175) rfl) rfl
theorem tw_482 : (.instanceMethod yJx4a65c_elementData_915e3 : Cond) ∈ lw_t2 := t2_2 (List.mem_of_getElem? (i := 176) rfl) rfl
theorem tw_483 : (.selects RJx4a65c yJx4a65c_elementData_915e3 yJx4a65c_elementData_915e3 : Cond) ∈ lw_t2 := t2_2 (List.mem_of_getElem? (i := 177) rfl) rfl
theorem tw_484 : (.code yJx4a65c_elementData_915e3 cJx4a65c_elementData_915e3 2 (some (.object "java/lang/Object")) : Cond) ∈ lw_t2 := t2_2 (List.mem_of_getElem? (i := 178) rfl) rfl
theorem tw_485 : (.methodLink RX11 93 yJx4a65c_size_8abf5 : Cond) ∈ lw_t2 := t2_2 (List.mem_of_getElem? (i := 179) rfl) rfl
theorem tw_486 : (.classLink RX11 97 RX5 : Cond) ∈ lw_t2 := t2_2 (List.mem_of_getElem? (i := 180) rfl) rfl
theorem tw_487 : (.methodLink RX11 99 yX5_init : Cond) ∈ lw_t2 := t2_2 (List.mem_of_getElem? (i := 181) rfl) rfl
theorem tw_488 : (.methodLink RX11 102 yJx4a65c_add_9ea2d : Cond) ∈ lw_t2 := t2_2 (List.mem_of_getElem? (i := 182) rfl) rfl
theorem tw_489 : (.methodLink RL 23 yX11_boost : Cond) ∈ lw_t2 := t2_2 (List.mem_of_getElem? (i := 183) rfl) rfl
theorem tw_490 : (.instanceMethod yX11_boost : Cond) ∈ lw_t2 := t2_2 (List.mem_of_getElem? (i := 184) rfl) rfl
theorem tw_491 : (.selects RX11 yX11_boost yX11_boost : Cond) ∈ lw_t2 := t2_2 (List.mem_of_getElem? (i := 185) rfl) rfl
theorem tw_492 : (.code yX11_boost cX11_boost 5 (some .int) : Cond) ∈ lw_t2 := t2_2 (List.mem_of_getElem? (i := 186) rfl) rfl
theorem tw_493 : (.methodLink RL 27 yX11_weather : Cond) ∈ lw_t2 := t2_2 (List.mem_of_getElem? (i := 187) rfl) rfl
theorem tw_494 : (.instanceMethod yX11_weather : Cond) ∈ lw_t2 := t2_2 (List.mem_of_getElem? (i := 188) rfl) rfl
theorem tw_495 : (.selects RX11 yX11_weather yX11_weather : Cond) ∈ lw_t2 := t2_2 (List.mem_of_getElem? (i := 189) rfl) rfl
theorem tw_496 : (.code yX11_weather cX11_weather 3 (some .int) : Cond) ∈ lw_t2 := t2_2 (List.mem_of_getElem? (i := 190) rfl) rfl
theorem tw_497 : (.methodLink RL 31 yX11_cut : Cond) ∈ lw_t2 := t2_2 (List.mem_of_getElem? (i := 191) rfl) rfl
theorem tw_498 : (.instanceMethod yX11_cut : Cond) ∈ lw_t2 := t2_2 (List.mem_of_getElem? (i := 192) rfl) rfl
theorem tw_499 : (.selects RX11 yX11_cut yX11_cut : Cond) ∈ lw_t2 := t2_2 (List.mem_of_getElem? (i := 193) rfl) rfl
theorem tw_500 : (.code yX11_cut cX11_cut 5 (some .int) : Cond) ∈ lw_t2 := t2_2 (List.mem_of_getElem? (i := 194) rfl) rfl
theorem tw_501 : (.classLink RX11 116 RX0 : Cond) ∈ lw_t2 := t2_2 (List.mem_of_getElem? (i := 195) rfl) rfl
theorem tw_502 : (.instantiable RX0 3 : Cond) ∈ lw_t2 := t2_2 (List.mem_of_getElem? (i := 196) rfl) rfl
theorem tw_503 : (.methodLink RX11 118 yX0_init : Cond) ∈ lw_t2 := t2_2 (List.mem_of_getElem? (i := 197) rfl) rfl
theorem tw_504 : (.instanceMethod yX0_init : Cond) ∈ lw_t2 := t2_2 (List.mem_of_getElem? (i := 198) rfl) rfl
theorem tw_505 : (.code yX0_init cX0_init 4 none : Cond) ∈ lw_t2 := t2_2 (List.mem_of_getElem? (i := 199) rfl) rfl
theorem tw_506 : (.methodLink RX0 1 ⟨"java/lang/Object", "<init>", "()V"⟩ : Cond) ∈ lw_t2 := t2_2 (List.mem_of_getElem? (i := 200) rfl) rfl
theorem tw_507 : (.fieldLink RX0 7 "EarPaper$Cut" "node" "LEarPaper$Node;" : Cond) ∈ lw_t2 := t2_2 (List.mem_of_getElem? (i := 201) rfl) rfl
theorem tw_508 : (.fieldLink RX3 66 "EarPaper$Cut" "node" "LEarPaper$Node;" : Cond) ∈ lw_t2 := t2_2 (List.mem_of_getElem? (i := 202) rfl) rfl
theorem tw_509 : (.fieldLink RX0 13 "EarPaper$Cut" "from" "I" : Cond) ∈ lw_t2 := t2_2 (List.mem_of_getElem? (i := 203) rfl) rfl
theorem tw_510 : (.fieldLink RX3 60 "EarPaper$Cut" "from" "I" : Cond) ∈ lw_t2 := t2_2 (List.mem_of_getElem? (i := 204) rfl) rfl
theorem tw_511 : (.fieldLink RX0 17 "EarPaper$Cut" "to" "I" : Cond) ∈ lw_t2 := t2_2 (List.mem_of_getElem? (i := 205) rfl) rfl
theorem tw_512 : (.fieldLink RX3 63 "EarPaper$Cut" "to" "I" : Cond) ∈ lw_t2 := t2_2 (List.mem_of_getElem? (i := 206) rfl) rfl
theorem tw_520 : (.methodLink RL 36 yX11_loud : Cond) ∈ lw_t2 := t2_2 (List.mem_of_getElem? (i := 214) rfl) rfl
theorem tw_521 : (.instanceMethod yX11_loud : Cond) ∈ lw_t2 := t2_2 (List.mem_of_getElem? (i := 215) rfl) rfl
theorem tw_522 : (.selects RX11 yX11_loud yX11_loud : Cond) ∈ lw_t2 := t2_2 (List.mem_of_getElem? (i := 216) rfl) rfl
theorem tw_523 : (.code yX11_loud cX11_loud 5 (some .int) : Cond) ∈ lw_t2 := t2_2 (List.mem_of_getElem? (i := 217) rfl) rfl
theorem tw_524 : (.methodLink RX11 119 yX11_voiceRefusal : Cond) ∈ lw_t2 := t2_2 (List.mem_of_getElem? (i := 218) rfl) rfl
theorem tw_525 : (.static yX11_voiceRefusal : Cond) ∈ lw_t2 := t2_2 (List.mem_of_getElem? (i := 219) rfl) rfl
theorem tw_526 : (.code yX11_voiceRefusal cX11_voiceRefusal 1 (some .int) : Cond) ∈ lw_t2 := t2_2 (List.mem_of_getElem? (i := 220) rfl) rfl
theorem tw_527 : (.methodLink RX11 122 yX3_carry : Cond) ∈ lw_t2 := t2_2 (List.mem_of_getElem? (i := 221) rfl) rfl
theorem tw_528 : (.instanceMethod yX3_carry : Cond) ∈ lw_t2 := t2_2 (List.mem_of_getElem? (i := 222) rfl) rfl
theorem tw_529 : (.selects RX3 yX3_carry yX3_carry : Cond) ∈ lw_t2 := t2_2 (List.mem_of_getElem? (i := 223) rfl) rfl
theorem tw_530 : (.code yX3_carry cX3_carry 6 none : Cond) ∈ lw_t2 := t2_2 (List.mem_of_getElem? (i := 224) rfl) rfl
theorem tw_531 : (.classLink RX3 58 RX0 : Cond) ∈ lw_t2 := t2_2 (List.mem_of_getElem? (i := 225) rfl) rfl
theorem tw_532 : (.methodLink RX3 70 yX5_receive : Cond) ∈ lw_t2 := t2_2 (List.mem_of_getElem? (i := 226) rfl) rfl
theorem tw_533 : (.instanceMethod yX5_receive : Cond) ∈ lw_t2 := t2_2 (List.mem_of_getElem? (i := 227) rfl) rfl
theorem tw_534 : (.selects RX5 yX5_receive yX5_receive : Cond) ∈ lw_t2 := t2_2 (List.mem_of_getElem? (i := 228) rfl) rfl
theorem tw_535 : (.code yX5_receive cX5_receive 4 none : Cond) ∈ lw_t2 := t2_2 (List.mem_of_getElem? (i := 229) rfl) rfl
theorem tw_536 : (.methodLink RX5 35 yJ9_min_7cf53 : Cond) ∈ lw_t2 := t2_2 (List.mem_of_getElem? (i := 230) rfl) rfl
theorem tw_537 : (.methodLink RL 40 yX11_home : Cond) ∈ lw_t2 := t2_2 (List.mem_of_getElem? (i := 231) rfl) rfl
theorem tw_538 : (.instanceMethod yX11_home : Cond) ∈ lw_t2 := t2_2 (List.mem_of_getElem? (i := 232) rfl) rfl
theorem tw_539 : (.selects RX11 yX11_home yX11_home : Cond) ∈ lw_t2 := t2_2 (List.mem_of_getElem? (i := 233) rfl) rfl
theorem tw_540 : (.code yX11_home cX11_home 7 (some .int) : Cond) ∈ lw_t2 := t2_2 (List.mem_of_getElem? (i := 234) rfl) rfl
theorem tw_541 : (.constant RX11 132 (16777215) : Cond) ∈ lw_t2 := t2_2 (List.mem_of_getElem? (i := 235) rfl) rfl
theorem tw_542 : (.classLink RX11 133 RX1 : Cond) ∈ lw_t2 := t2_2 (List.mem_of_getElem? (i := 236) rfl) rfl
theorem tw_543 : (.instantiable RX1 5 : Cond) ∈ lw_t2 := t2_2 (List.mem_of_getElem? (i := 237) rfl) rfl
theorem tw_544 : (.methodLink RX11 135 yX1_init : Cond) ∈ lw_t2 := t2_2 (List.mem_of_getElem? (i := 238) rfl) rfl
theorem tw_545 : (.instanceMethod yX1_init : Cond) ∈ lw_t2 := t2_2 (List.mem_of_getElem? (i := 239) rfl) rfl
theorem tw_546 : (.code yX1_init cX1_init 5 none : Cond) ∈ lw_t2 := t2_3 (List.mem_of_getElem? (i := 0) rfl) rfl
theorem tw_547 : (.methodLink RX1 1 ⟨"java/lang/Object", "<init>", "()V"⟩ : Cond) ∈ lw_t2 := t2_3 (List.mem_of_getElem? (i := 1) rfl) rfl
theorem tw_548 : (.fieldLink RX1 7 "EarPaper$Home" "at" "LEarPaper$Node;" : Cond) ∈ lw_t2 := t2_3 (List.mem_of_getElem? (i := 2) rfl) rfl
theorem tw_549 : (.fieldLink RX3 127 "EarPaper$Home" "at" "LEarPaper$Node;" : Cond) ∈ lw_t2 := t2_3 (List.mem_of_getElem? (i := 3) rfl) rfl
theorem tw_550 : (.fieldLink RX1 13 "EarPaper$Home" "ears" "I" : Cond) ∈ lw_t2 := t2_3 (List.mem_of_getElem? (i := 4) rfl) rfl
theorem tw_551 : (.fieldLink RX1 17 "EarPaper$Home" "surely" "I" : Cond) ∈ lw_t2 := t2_3 (List.mem_of_getElem? (i := 5) rfl) rfl
theorem tw_552 : (.fieldLink RX3 87 "EarPaper$Home" "surely" "I" : Cond) ∈ lw_t2 := t2_3 (List.mem_of_getElem? (i := 6) rfl) rfl
theorem tw_553 : (.fieldLink RX1 20 "EarPaper$Home" "maybe" "I" : Cond) ∈ lw_t2 := t2_3 (List.mem_of_getElem? (i := 7) rfl) rfl
theorem tw_554 : (.fieldLink RX3 90 "EarPaper$Home" "maybe" "I" : Cond) ∈ lw_t2 := t2_3 (List.mem_of_getElem? (i := 8) rfl) rfl
theorem tw_555 : (.fieldLink RX3 113 "EarPaper$Home" "complains" "Z" : Cond) ∈ lw_t2 := t2_3 (List.mem_of_getElem? (i := 9) rfl) rfl
theorem tw_556 : (.fieldLink RX11 257 "EarPaper$Home" "complains" "Z" : Cond) ∈ lw_t2 := t2_3 (List.mem_of_getElem? (i := 10) rfl) rfl
theorem tw_568 : (.methodLink RL 45 yX11_least : Cond) ∈ lw_t2 := t2_3 (List.mem_of_getElem? (i := 22) rfl) rfl
theorem tw_569 : (.instanceMethod yX11_least : Cond) ∈ lw_t2 := t2_3 (List.mem_of_getElem? (i := 23) rfl) rfl
theorem tw_570 : (.selects RX11 yX11_least yX11_least : Cond) ∈ lw_t2 := t2_3 (List.mem_of_getElem? (i := 24) rfl) rfl
theorem tw_571 : (.code yX11_least cX11_least 3 (some .int) : Cond) ∈ lw_t2 := t2_3 (List.mem_of_getElem? (i := 25) rfl) rfl
theorem tw_572 : (.methodLink RL 49 yX11_hears : Cond) ∈ lw_t2 := t2_3 (List.mem_of_getElem? (i := 26) rfl) rfl
theorem tw_573 : (.instanceMethod yX11_hears : Cond) ∈ lw_t2 := t2_3 (List.mem_of_getElem? (i := 27) rfl) rfl
theorem tw_574 : (.selects RX11 yX11_hears yX11_hears : Cond) ∈ lw_t2 := t2_3 (List.mem_of_getElem? (i := 28) rfl) rfl
theorem tw_575 : (.code yX11_hears cX11_hears 5 (some .int) : Cond) ∈ lw_t2 := t2_3 (List.mem_of_getElem? (i := 29) rfl) rfl
theorem tw_576 : (.methodLink RX11 141 yX3_homeOf : Cond) ∈ lw_t2 := t2_3 (List.mem_of_getElem? (i := 30) rfl) rfl
theorem tw_577 : (.instanceMethod yX3_homeOf : Cond) ∈ lw_t2 := t2_3 (List.mem_of_getElem? (i := 31) rfl) rfl
theorem tw_578 : (.selects RX3 yX3_homeOf yX3_homeOf : Cond) ∈ lw_t2 := t2_3 (List.mem_of_getElem? (i := 32) rfl) rfl
theorem tw_579 : (.code yX3_homeOf cX3_homeOf 2 (some (.object "EarPaper$Home")) : Cond) ∈ lw_t2 := t2_3 (List.mem_of_getElem? (i := 33) rfl) rfl
theorem tw_580 : (.classLink RX3 52 RX1 : Cond) ∈ lw_t2 := t2_3 (List.mem_of_getElem? (i := 34) rfl) rfl
theorem tw_581 : (.methodLink RX11 145 yX1_isReached : Cond) ∈ lw_t2 := t2_3 (List.mem_of_getElem? (i := 35) rfl) rfl
theorem tw_582 : (.instanceMethod yX1_isReached : Cond) ∈ lw_t2 := t2_3 (List.mem_of_getElem? (i := 36) rfl) rfl
theorem tw_583 : (.selects RX1 yX1_isReached yX1_isReached : Cond) ∈ lw_t2 := t2_3 (List.mem_of_getElem? (i := 37) rfl) rfl
theorem tw_584 : (.code yX1_isReached cX1_isReached 2 (some .boolean) : Cond) ∈ lw_t2 := t2_3 (List.mem_of_getElem? (i := 38) rfl) rfl
theorem tw_585 : (.methodLink RL 53 yX11_reader : Cond) ∈ lw_t2 := t2_3 (List.mem_of_getElem? (i := 39) rfl) rfl
theorem tw_586 : (.instanceMethod yX11_reader : Cond) ∈ lw_t2 := t2_3 (List.mem_of_getElem? (i := 40) rfl) rfl
theorem tw_587 : (.selects RX11 yX11_reader yX11_reader : Cond) ∈ lw_t2 := t2_3 (List.mem_of_getElem? (i := 41) rfl) rfl
theorem tw_588 : (.code yX11_reader cX11_reader 4 (some .int) : Cond) ∈ lw_t2 := t2_3 (List.mem_of_getElem? (i := 42) rfl) rfl
theorem tw_589 : (.classLink RX11 149 RX6 : Cond) ∈ lw_t2 := t2_3 (List.mem_of_getElem? (i := 43) rfl) rfl
theorem tw_590 : (.instantiable RX6 3 : Cond) ∈ lw_t2 := t2_3 (List.mem_of_getElem? (i := 44) rfl) rfl
theorem tw_591 : (.methodLink RX11 151 yX6_init : Cond) ∈ lw_t2 := t2_3 (List.mem_of_getElem? (i := 45) rfl) rfl
theorem tw_592 : (.instanceMethod yX6_init : Cond) ∈ lw_t2 := t2_3 (List.mem_of_getElem? (i := 46) rfl) rfl
theorem tw_593 : (.code yX6_init cX6_init 2 none : Cond) ∈ lw_t2 := t2_3 (List.mem_of_getElem? (i := 47) rfl) rfl
theorem tw_594 : (.methodLink RX6 3 ⟨"java/lang/Object", "<init>", "()V"⟩ : Cond) ∈ lw_t2 := t2_3 (List.mem_of_getElem? (i := 48) rfl) rfl
theorem tw_595 : (.fieldLink RX6 15 "EarPaper$Reader" "voice" "I" : Cond) ∈ lw_t2 := t2_3 (List.mem_of_getElem? (i := 49) rfl) rfl
theorem tw_596 : (.fieldLink RX11 176 "EarPaper$Reader" "voice" "I" : Cond) ∈ lw_t2 := t2_3 (List.mem_of_getElem? (i := 50) rfl) rfl
theorem tw_597 : (.fieldLink RX6 9 "EarPaper$Reader" "lastRead" "I" : Cond) ∈ lw_t2 := t2_3 (List.mem_of_getElem? (i := 51) rfl) rfl
theorem tw_598 : (.fieldLink RX6 18 "EarPaper$Reader" "onEnd" "I" : Cond) ∈ lw_t2 := t2_3 (List.mem_of_getElem? (i := 52) rfl) rfl
theorem tw_606 : (.methodLink RL 57 yX11_rests : Cond) ∈ lw_t2 := t2_3 (List.mem_of_getElem? (i := 60) rfl) rfl
theorem tw_607 : (.instanceMethod yX11_rests : Cond) ∈ lw_t2 := t2_3 (List.mem_of_getElem? (i := 61) rfl) rfl
theorem tw_608 : (.selects RX11 yX11_rests yX11_rests : Cond) ∈ lw_t2 := t2_3 (List.mem_of_getElem? (i := 62) rfl) rfl
theorem tw_609 : (.code yX11_rests cX11_rests 4 (some .int) : Cond) ∈ lw_t2 := t2_3 (List.mem_of_getElem? (i := 63) rfl) rfl
theorem tw_610 : (.methodLink RL 61 yX11_mayRead : Cond) ∈ lw_t2 := t2_3 (List.mem_of_getElem? (i := 64) rfl) rfl
theorem tw_611 : (.instanceMethod yX11_mayRead : Cond) ∈ lw_t2 := t2_3 (List.mem_of_getElem? (i := 65) rfl) rfl
theorem tw_612 : (.selects RX11 yX11_mayRead yX11_mayRead : Cond) ∈ lw_t2 := t2_3 (List.mem_of_getElem? (i := 66) rfl) rfl
theorem tw_613 : (.code yX11_mayRead cX11_mayRead 3 (some .int) : Cond) ∈ lw_t2 := t2_3 (List.mem_of_getElem? (i := 67) rfl) rfl
theorem tw_614 : (.methodLink RX11 154 yX11_readerOf : Cond) ∈ lw_t2 := t2_3 (List.mem_of_getElem? (i := 68) rfl) rfl
theorem tw_616 : (.instanceMethod yX11_readerOf : Cond) ∈ lw_t2 := t2_3 (List.mem_of_getElem? (i := 70) rfl) rfl
theorem tw_617 : (.code yX11_readerOf cX11_readerOf 2 (some (.object "EarPaper$Reader")) : Cond) ∈ lw_t2 := t2_3 (List.mem_of_getElem? (i := 71) rfl) rfl
theorem tw_618 : (.methodLink RX11 334 yJx4a65c_get_915e3 : Cond) ∈ lw_t2 := t2_3 (List.mem_of_getElem? (i := 72) rfl) rfl
theorem tw_619 : (.methodLink RX11 158 yX6_isFree : Cond) ∈ lw_t2 := t2_3 (List.mem_of_getElem? (i := 73) rfl) rfl
theorem tw_620 : (.instanceMethod yX6_isFree : Cond) ∈ lw_t2 := t2_3 (List.mem_of_getElem? (i := 74) rfl) rfl
theorem tw_621 : (.selects RX6 yX6_isFree yX6_isFree : Cond) ∈ lw_t2 := t2_3 (List.mem_of_getElem? (i := 75) rfl) rfl
theorem tw_622 : (.code yX6_isFree cX6_isFree 4 (some .boolean) : Cond) ∈ lw_t2 := t2_3 (List.mem_of_getElem? (i := 76) rfl) rfl
theorem tw_623 : (.methodLink RL 65 yX11_say : Cond) ∈ lw_t2 := t2_3 (List.mem_of_getElem? (i := 77) rfl) rfl
theorem tw_624 : (.instanceMethod yX11_say : Cond) ∈ lw_t2 := t2_3 (List.mem_of_getElem? (i := 78) rfl) rfl
theorem tw_625 : (.selects RX11 yX11_say yX11_say : Cond) ∈ lw_t2 := t2_3 (List.mem_of_getElem? (i := 79) rfl) rfl
theorem tw_626 : (.code yX11_say cX11_say 7 (some .int) : Cond) ∈ lw_t2 := t2_3 (List.mem_of_getElem? (i := 80) rfl) rfl
theorem tw_627 : (.methodLink RX11 162 yX11_isKnown : Cond) ∈ lw_t2 := t2_3 (List.mem_of_getElem? (i := 81) rfl) rfl
theorem tw_629 : (.instanceMethod yX11_isKnown : Cond) ∈ lw_t2 := t2_3 (List.mem_of_getElem? (i := 83) rfl) rfl
theorem tw_630 : (.code yX11_isKnown cX11_isKnown 3 (some .boolean) : Cond) ∈ lw_t2 := t2_3 (List.mem_of_getElem? (i := 84) rfl) rfl
theorem tw_631 : (.methodLink RX11 295 yX11_newsOf : Cond) ∈ lw_t2 := t2_3 (List.mem_of_getElem? (i := 85) rfl) rfl
theorem tw_633 : (.instanceMethod yX11_newsOf : Cond) ∈ lw_t2 := t2_3 (List.mem_of_getElem? (i := 87) rfl) rfl
theorem tw_634 : (.code yX11_newsOf cX11_newsOf 2 (some (.object "EarPaper$News")) : Cond) ∈ lw_t2 := t2_3 (List.mem_of_getElem? (i := 88) rfl) rfl
theorem tw_635 : (.classLink RX11 292 RX4 : Cond) ∈ lw_t2 := t2_3 (List.mem_of_getElem? (i := 89) rfl) rfl
theorem tw_636 : (.methodLink RX11 180 yX11_tellsOf : Cond) ∈ lw_t2 := t2_3 (List.mem_of_getElem? (i := 90) rfl) rfl
theorem tw_637 : (.static yX11_tellsOf : Cond) ∈ lw_t2 := t2_3 (List.mem_of_getElem? (i := 91) rfl) rfl
theorem tw_638 : (.code yX11_tellsOf cX11_tellsOf 1 (some .boolean) : Cond) ∈ lw_t2 := t2_3 (List.mem_of_getElem? (i := 92) rfl) rfl
theorem tw_639 : (.methodLink RX11 192 yX2_spanOf : Cond) ∈ lw_t2 := t2_3 (List.mem_of_getElem? (i := 93) rfl) rfl
theorem tw_640 : (.instanceMethod yX2_spanOf : Cond) ∈ lw_t2 := t2_3 (List.mem_of_getElem? (i := 94) rfl) rfl
theorem tw_641 : (.selects RX2 yX2_spanOf yX2_spanOf : Cond) ∈ lw_t2 := t2_3 (List.mem_of_getElem? (i := 95) rfl) rfl
theorem tw_642 : (.code yX2_spanOf cX2_spanOf 6 (some (.object "EarPaper$Span")) : Cond) ∈ lw_t2 := t2_3 (List.mem_of_getElem? (i := 96) rfl) rfl
theorem tw_643 : (.methodLink RX2 43 yJx4a65c_isEmpty_aae02 : Cond) ∈ lw_t2 := t2_3 (List.mem_of_getElem? (i := 97) rfl) rfl
theorem tw_644 : (.instanceMethod yJx4a65c_isEmpty_aae02 : Cond) ∈ lw_t2 := t2_3 (List.mem_of_getElem? (i := 98) rfl) rfl
theorem tw_645 : (.selects RJx4a65c yJx4a65c_isEmpty_aae02 yJx4a65c_isEmpty_aae02 : Cond) ∈ lw_t2 := t2_3 (List.mem_of_getElem? (i := 99) rfl) rfl
theorem tw_646 : (.code yJx4a65c_isEmpty_aae02 cJx4a65c_isEmpty_aae02 1 (some .boolean) : Cond) ∈ lw_t2 := t2_3 (List.mem_of_getElem? (i := 100) rfl) rfl
theorem tw_647 : (.methodLink RX2 47 yJx4a65c_size_8abf5 : Cond) ∈ lw_t2 := t2_3 (List.mem_of_getElem? (i := 101) rfl) rfl
theorem tw_648 : (.methodLink RX2 51 yJx4a65c_get_915e3 : Cond) ∈ lw_t2 := t2_3 (List.mem_of_getElem? (i := 102) rfl) rfl
theorem tw_649 : (.classLink RX2 23 RX8 : Cond) ∈ lw_t2 := t2_3 (List.mem_of_getElem? (i := 103) rfl) rfl
theorem tw_650 : (.methodLink RX11 166 yX11_isOfItsKind : Cond) ∈ lw_t2 := t2_3 (List.mem_of_getElem? (i := 104) rfl) rfl
theorem tw_652 : (.instanceMethod yX11_isOfItsKind : Cond) ∈ lw_t2 := t2_3 (List.mem_of_getElem? (i := 106) rfl) rfl
theorem tw_653 : (.code yX11_isOfItsKind cX11_isOfItsKind 4 (some .boolean) : Cond) ∈ lw_t2 := t2_3 (List.mem_of_getElem? (i := 107) rfl) rfl
theorem tw_654 : (.methodLink RX11 169 yX11_mayBreak : Cond) ∈ lw_t2 := t2_3 (List.mem_of_getElem? (i := 108) rfl) rfl
theorem tw_656 : (.instanceMethod yX11_mayBreak : Cond) ∈ lw_t2 := t2_3 (List.mem_of_getElem? (i := 110) rfl) rfl
theorem tw_657 : (.code yX11_mayBreak cX11_mayBreak 3 (some .boolean) : Cond) ∈ lw_t2 := t2_3 (List.mem_of_getElem? (i := 111) rfl) rfl
theorem tw_658 : (.methodLink RX11 347 yX11_inForce : Cond) ∈ lw_t2 := t2_3 (List.mem_of_getElem? (i := 112) rfl) rfl
theorem tw_660 : (.instanceMethod yX11_inForce : Cond) ∈ lw_t2 := t2_3 (List.mem_of_getElem? (i := 114) rfl) rfl
theorem tw_661 : (.code yX11_inForce cX11_inForce 6 (some (.object "EarPaper$Term")) : Cond) ∈ lw_t2 := t2_3 (List.mem_of_getElem? (i := 115) rfl) rfl
theorem tw_662 : (.classLink RX11 227 RX9 : Cond) ∈ lw_t2 := t2_3 (List.mem_of_getElem? (i := 116) rfl) rfl
theorem tw_663 : (.methodLink RX11 352 yX11_hourOf : Cond) ∈ lw_t2 := t2_3 (List.mem_of_getElem? (i := 117) rfl) rfl
theorem tw_664 : (.static yX11_hourOf : Cond) ∈ lw_t2 := t2_3 (List.mem_of_getElem? (i := 118) rfl) rfl
theorem tw_665 : (.code yX11_hourOf cX11_hourOf 1 (some .int) : Cond) ∈ lw_t2 := t2_3 (List.mem_of_getElem? (i := 119) rfl) rfl
theorem tw_666 : (.methodLink RX11 370 yX7_weigh : Cond) ∈ lw_t2 := t2_3 (List.mem_of_getElem? (i := 120) rfl) rfl
theorem tw_667 : (.instanceMethod yX7_weigh : Cond) ∈ lw_t2 := t2_3 (List.mem_of_getElem? (i := 121) rfl) rfl
theorem tw_668 : (.selects RX7 yX7_weigh yX7_weigh : Cond) ∈ lw_t2 := t2_3 (List.mem_of_getElem? (i := 122) rfl) rfl
theorem tw_669 : (.code yX7_weigh cX7_weigh 6 (some .int) : Cond) ∈ lw_t2 := t2_3 (List.mem_of_getElem? (i := 123) rfl) rfl
theorem tw_670 : (.methodLink RX7 19 yX7_push : Cond) ∈ lw_t2 := t2_3 (List.mem_of_getElem? (i := 124) rfl) rfl
theorem tw_672 : (.instanceMethod yX7_push : Cond) ∈ lw_t2 := t2_3 (List.mem_of_getElem? (i := 126) rfl) rfl
theorem tw_673 : (.code yX7_push cX7_push 2 none : Cond) ∈ lw_t2 := t2_3 (List.mem_of_getElem? (i := 127) rfl) rfl
theorem tw_675 : (.static yX10_isLetter : Cond) ∈ lw_t2 := t2_3 (List.mem_of_getElem? (i := 129) rfl) rfl
theorem tw_676 : (.code yX10_isLetter cX10_isLetter 1 (some .boolean) : Cond) ∈ lw_t2 := t2_3 (List.mem_of_getElem? (i := 130) rfl) rfl
theorem tw_677 : (.methodLink RX7 29 yX7_letter : Cond) ∈ lw_t2 := t2_3 (List.mem_of_getElem? (i := 131) rfl) rfl
theorem tw_679 : (.instanceMethod yX7_letter : Cond) ∈ lw_t2 := t2_3 (List.mem_of_getElem? (i := 133) rfl) rfl
theorem tw_680 : (.code yX7_letter cX7_letter 2 (some .int) : Cond) ∈ lw_t2 := t2_3 (List.mem_of_getElem? (i := 134) rfl) rfl
theorem tw_681 : (.methodLink RX7 33 yX7_join : Cond) ∈ lw_t2 := t2_3 (List.mem_of_getElem? (i := 135) rfl) rfl
theorem tw_683 : (.instanceMethod yX7_join : Cond) ∈ lw_t2 := t2_3 (List.mem_of_getElem? (i := 137) rfl) rfl
theorem tw_684 : (.code yX7_join cX7_join 4 none : Cond) ∈ lw_t2 := t2_3 (List.mem_of_getElem? (i := 138) rfl) rfl
theorem tw_685 : (.methodLink RX7 60 yX7_work : Cond) ∈ lw_t2 := t2_3 (List.mem_of_getElem? (i := 139) rfl) rfl
theorem tw_686 : (.static yX7_work : Cond) ∈ lw_t2 := t2_3 (List.mem_of_getElem? (i := 140) rfl) rfl
theorem tw_687 : (.code yX7_work cX7_work 5 (some .long) : Cond) ∈ lw_t2 := t2_3 (List.mem_of_getElem? (i := 141) rfl) rfl
theorem tw_688 : (.constantLong RX7 64 (-1000000000) : Cond) ∈ lw_t2 := t2_3 (List.mem_of_getElem? (i := 142) rfl) rfl
theorem tw_689 : (.constantLong RX7 66 (1000000000) : Cond) ∈ lw_t2 := t2_3 (List.mem_of_getElem? (i := 143) rfl) rfl
theorem tw_690 : (.methodLink RX7 68 yJ9_min_f86c9 : Cond) ∈ lw_t2 := t2_3 (List.mem_of_getElem? (i := 144) rfl) rfl
theorem tw_691 : (.static yJ9_min_f86c9 : Cond) ∈ lw_t2 := t2_3 (List.mem_of_getElem? (i := 145) rfl) rfl
theorem tw_692 : (.code yJ9_min_f86c9 cJ9_min_f86c9 4 (some .long) : Cond) ∈ lw_t2 := t2_3 (List.mem_of_getElem? (i := 146) rfl) rfl
theorem tw_693 : (.methodLink RX7 74 yJ9_max_f86c9 : Cond) ∈ lw_t2 := t2_3 (List.mem_of_getElem? (i := 147) rfl) rfl
theorem tw_694 : (.static yJ9_max_f86c9 : Cond) ∈ lw_t2 := t2_3 (List.mem_of_getElem? (i := 148) rfl) rfl
theorem tw_695 : (.code yJ9_max_f86c9 cJ9_max_f86c9 4 (some .long) : Cond) ∈ lw_t2 := t2_3 (List.mem_of_getElem? (i := 149) rfl) rfl
theorem tw_696 : (.methodLink RX11 186 yX6_readIn : Cond) ∈ lw_t2 := t2_3 (List.mem_of_getElem? (i := 150) rfl) rfl
theorem tw_697 : (.instanceMethod yX6_readIn : Cond) ∈ lw_t2 := t2_3 (List.mem_of_getElem? (i := 151) rfl) rfl
theorem tw_698 : (.selects RX6 yX6_readIn yX6_readIn : Cond) ∈ lw_t2 := t2_3 (List.mem_of_getElem? (i := 152) rfl) rfl
theorem tw_699 : (.code yX6_readIn cX6_readIn 2 none : Cond) ∈ lw_t2 := t2_3 (List.mem_of_getElem? (i := 153) rfl) rfl
theorem tw_700 : (.methodLink RX11 189 yX11_markRead : Cond) ∈ lw_t2 := t2_3 (List.mem_of_getElem? (i := 154) rfl) rfl
theorem tw_702 : (.instanceMethod yX11_markRead : Cond) ∈ lw_t2 := t2_3 (List.mem_of_getElem? (i := 156) rfl) rfl
theorem tw_703 : (.code yX11_markRead cX11_markRead 5 none : Cond) ∈ lw_t2 := t2_3 (List.mem_of_getElem? (i := 157) rfl) rfl
theorem tw_704 : (.methodLink RL 69 yX11_stage : Cond) ∈ lw_t2 := t2_3 (List.mem_of_getElem? (i := 158) rfl) rfl
theorem tw_705 : (.instanceMethod yX11_stage : Cond) ∈ lw_t2 := t2_3 (List.mem_of_getElem? (i := 159) rfl) rfl
theorem tw_706 : (.selects RX11 yX11_stage yX11_stage : Cond) ∈ lw_t2 := t2_3 (List.mem_of_getElem? (i := 160) rfl) rfl
theorem tw_707 : (.code yX11_stage cX11_stage 5 (some .int) : Cond) ∈ lw_t2 := t2_3 (List.mem_of_getElem? (i := 161) rfl) rfl
theorem tw_708 : (.methodLink RL 73 yX11_minuteOf : Cond) ∈ lw_t2 := t2_3 (List.mem_of_getElem? (i := 162) rfl) rfl
theorem tw_709 : (.instanceMethod yX11_minuteOf : Cond) ∈ lw_t2 := t2_3 (List.mem_of_getElem? (i := 163) rfl) rfl
theorem tw_710 : (.selects RX11 yX11_minuteOf yX11_minuteOf : Cond) ∈ lw_t2 := t2_3 (List.mem_of_getElem? (i := 164) rfl) rfl
theorem tw_711 : (.code yX11_minuteOf cX11_minuteOf 4 (some .int) : Cond) ∈ lw_t2 := t2_3 (List.mem_of_getElem? (i := 165) rfl) rfl
theorem tw_712 : (.methodLink RX11 199 yX3_tally : Cond) ∈ lw_t2 := t2_3 (List.mem_of_getElem? (i := 166) rfl) rfl
theorem tw_713 : (.instanceMethod yX3_tally : Cond) ∈ lw_t2 := t2_3 (List.mem_of_getElem? (i := 167) rfl) rfl
theorem tw_714 : (.selects RX3 yX3_tally yX3_tally : Cond) ∈ lw_t2 := t2_3 (List.mem_of_getElem? (i := 168) rfl) rfl
theorem tw_715 : (.code yX3_tally cX3_tally 5 none : Cond) ∈ lw_t2 := t2_3 (List.mem_of_getElem? (i := 169) rfl) rfl
theorem tw_716 : (.methodLink RX3 105 yX3_carry : Cond) ∈ lw_t2 := t2_3 (List.mem_of_getElem? (i := 170) rfl) rfl
theorem tw_717 : (.methodLink RX3 109 yX3_howHeard : Cond) ∈ lw_t2 := t2_3 (List.mem_of_getElem? (i := 171) rfl) rfl
theorem tw_718 : (.instanceMethod yX3_howHeard : Cond) ∈ lw_t2 := t2_3 (List.mem_of_getElem? (i := 172) rfl) rfl
theorem tw_719 : (.selects RX3 yX3_howHeard yX3_howHeard : Cond) ∈ lw_t2 := t2_3 (List.mem_of_getElem? (i := 173) rfl) rfl
theorem tw_720 : (.code yX3_howHeard cX3_howHeard 5 (some .int) : Cond) ∈ lw_t2 := t2_3 (List.mem_of_getElem? (i := 174) rfl) rfl
theorem tw_721 : (.methodLink RX3 79 yX1_isReached : Cond) ∈ lw_t2 := t2_3 (List.mem_of_getElem? (i := 175) rfl) rfl
theorem tw_723 : (.methodLink RL 77 yX11_heard : Cond) ∈ lw_t2 := t2_3 (List.mem_of_getElem? (i := 177) rfl) rfl
theorem tw_724 : (.instanceMethod yX11_heard : Cond) ∈ lw_t2 := t2_3 (List.mem_of_getElem? (i := 178) rfl) rfl
theorem tw_725 : (.selects RX11 yX11_heard yX11_heard : Cond) ∈ lw_t2 := t2_3 (List.mem_of_getElem? (i := 179) rfl) rfl
theorem tw_726 : (.code yX11_heard cX11_heard 5 (some .int) : Cond) ∈ lw_t2 := t2_3 (List.mem_of_getElem? (i := 180) rfl) rfl
theorem tw_727 : (.methodLink RX11 210 yX3_howHeard : Cond) ∈ lw_t2 := t2_3 (List.mem_of_getElem? (i := 181) rfl) rfl
theorem tw_728 : (.methodLink RL 83 yX11_feed : Cond) ∈ lw_t2 := t2_3 (List.mem_of_getElem? (i := 182) rfl) rfl
theorem tw_729 : (.instanceMethod yX11_feed : Cond) ∈ lw_t2 := t2_3 (List.mem_of_getElem? (i := 183) rfl) rfl
theorem tw_730 : (.selects RX11 yX11_feed yX11_feed : Cond) ∈ lw_t2 := t2_3 (List.mem_of_getElem? (i := 184) rfl) rfl
theorem tw_731 : (.code yX11_feed cX11_feed 5 (some .int) : Cond) ∈ lw_t2 := t2_3 (List.mem_of_getElem? (i := 185) rfl) rfl
theorem tw_732 : (.methodLink RX11 217 yX10_take : Cond) ∈ lw_t2 := t2_3 (List.mem_of_getElem? (i := 186) rfl) rfl
theorem tw_733 : (.instanceMethod yX10_take : Cond) ∈ lw_t2 := t2_3 (List.mem_of_getElem? (i := 187) rfl) rfl
theorem tw_734 : (.selects RX10 yX10_take yX10_take : Cond) ∈ lw_t2 := t2_3 (List.mem_of_getElem? (i := 188) rfl) rfl
theorem tw_735 : (.code yX10_take cX10_take 2 none : Cond) ∈ lw_t2 := t2_3 (List.mem_of_getElem? (i := 189) rfl) rfl
theorem tw_736 : (.methodLink RL 88 yX11_term : Cond) ∈ lw_t2 := t2_3 (List.mem_of_getElem? (i := 190) rfl) rfl
theorem tw_737 : (.instanceMethod yX11_term : Cond) ∈ lw_t2 := t2_3 (List.mem_of_getElem? (i := 191) rfl) rfl
theorem tw_738 : (.selects RX11 yX11_term yX11_term : Cond) ∈ lw_t2 := t2_3 (List.mem_of_getElem? (i := 192) rfl) rfl
theorem tw_739 : (.code yX11_term cX11_term 5 (some .int) : Cond) ∈ lw_t2 := t2_3 (List.mem_of_getElem? (i := 193) rfl) rfl
theorem tw_740 : (.methodLink RX11 220 yX10_parse : Cond) ∈ lw_t2 := t2_3 (List.mem_of_getElem? (i := 194) rfl) rfl
theorem tw_741 : (.instanceMethod yX10_parse : Cond) ∈ lw_t2 := t2_3 (List.mem_of_getElem? (i := 195) rfl) rfl
theorem tw_742 : (.selects RX10 yX10_parse yX10_parse : Cond) ∈ lw_t2 := t2_3 (List.mem_of_getElem? (i := 196) rfl) rfl
theorem tw_743 : (.code yX10_parse cX10_parse 1 (some .boolean) : Cond) ∈ lw_t2 := t2_3 (List.mem_of_getElem? (i := 197) rfl) rfl
theorem tw_744 : (.methodLink RX10 28 yX10_parseSum : Cond) ∈ lw_t2 := t2_3 (List.mem_of_getElem? (i := 198) rfl) rfl
theorem tw_746 : (.instanceMethod yX10_parseSum : Cond) ∈ lw_t2 := t2_3 (List.mem_of_getElem? (i := 200) rfl) rfl
theorem tw_747 : (.code yX10_parseSum cX10_parseSum 4 (some .boolean) : Cond) ∈ lw_t2 := t2_3 (List.mem_of_getElem? (i := 201) rfl) rfl
theorem tw_748 : (.methodLink RX10 47 yX10_parseProduct : Cond) ∈ lw_t2 := t2_3 (List.mem_of_getElem? (i := 202) rfl) rfl
theorem tw_750 : (.instanceMethod yX10_parseProduct : Cond) ∈ lw_t2 := t2_3 (List.mem_of_getElem? (i := 204) rfl) rfl
theorem tw_751 : (.code yX10_parseProduct cX10_parseProduct 4 (some .boolean) : Cond) ∈ lw_t2 := t2_3 (List.mem_of_getElem? (i := 205) rfl) rfl
theorem tw_752 : (.methodLink RX10 58 yX10_parseUnit : Cond) ∈ lw_t2 := t2_3 (List.mem_of_getElem? (i := 206) rfl) rfl
theorem tw_754 : (.instanceMethod yX10_parseUnit : Cond) ∈ lw_t2 := t2_3 (List.mem_of_getElem? (i := 208) rfl) rfl
theorem tw_755 : (.code yX10_parseUnit cX10_parseUnit 3 (some .boolean) : Cond) ∈ lw_t2 := t2_3 (List.mem_of_getElem? (i := 209) rfl) rfl
theorem tw_756 : (.methodLink RX10 50 yX10_next : Cond) ∈ lw_t2 := t2_3 (List.mem_of_getElem? (i := 210) rfl) rfl
theorem tw_758 : (.instanceMethod yX10_next : Cond) ∈ lw_t2 := t2_3 (List.mem_of_getElem? (i := 212) rfl) rfl
theorem tw_759 : (.code yX10_next cX10_next 1 (some .int) : Cond) ∈ lw_t2 := t2_3 (List.mem_of_getElem? (i := 213) rfl) rfl
theorem tw_760 : (.methodLink RX10 61 yX10_parseBracket : Cond) ∈ lw_t2 := t2_3 (List.mem_of_getElem? (i := 214) rfl) rfl
theorem tw_762 : (.instanceMethod yX10_parseBracket : Cond) ∈ lw_t2 := t2_3 (List.mem_of_getElem? (i := 216) rfl) rfl
theorem tw_763 : (.code yX10_parseBracket cX10_parseBracket 3 (some .boolean) : Cond) ∈ lw_t2 := t2_3 (List.mem_of_getElem? (i := 217) rfl) rfl
theorem tw_764 : (.methodLink RX10 54 yX10_emit : Cond) ∈ lw_t2 := t2_3 (List.mem_of_getElem? (i := 218) rfl) rfl
theorem tw_766 : (.instanceMethod yX10_emit : Cond) ∈ lw_t2 := t2_3 (List.mem_of_getElem? (i := 220) rfl) rfl
theorem tw_767 : (.code yX10_emit cX10_emit 2 none : Cond) ∈ lw_t2 := t2_3 (List.mem_of_getElem? (i := 221) rfl) rfl
theorem tw_768 : (.methodLink RX10 64 yX10_isDigit : Cond) ∈ lw_t2 := t2_3 (List.mem_of_getElem? (i := 222) rfl) rfl
theorem tw_769 : (.static yX10_isDigit : Cond) ∈ lw_t2 := t2_3 (List.mem_of_getElem? (i := 223) rfl) rfl
theorem tw_770 : (.code yX10_isDigit cX10_isDigit 1 (some .boolean) : Cond) ∈ lw_t2 := t2_3 (List.mem_of_getElem? (i := 224) rfl) rfl
theorem tw_771 : (.methodLink RX10 67 yX10_parseNumber : Cond) ∈ lw_t2 := t2_3 (List.mem_of_getElem? (i := 225) rfl) rfl
theorem tw_773 : (.instanceMethod yX10_parseNumber : Cond) ∈ lw_t2 := t2_3 (List.mem_of_getElem? (i := 227) rfl) rfl
theorem tw_774 : (.code yX10_parseNumber cX10_parseNumber 3 none : Cond) ∈ lw_t2 := t2_3 (List.mem_of_getElem? (i := 228) rfl) rfl
theorem tw_775 : (.methodLink RX10 70 yX10_isLetter : Cond) ∈ lw_t2 := t2_3 (List.mem_of_getElem? (i := 229) rfl) rfl
theorem tw_776 : (.instantiable RX9 5 : Cond) ∈ lw_t2 := t2_3 (List.mem_of_getElem? (i := 230) rfl) rfl
theorem tw_777 : (.methodLink RX11 229 yX10_madeCode : Cond) ∈ lw_t2 := t2_3 (List.mem_of_getElem? (i := 231) rfl) rfl
theorem tw_778 : (.instanceMethod yX10_madeCode : Cond) ∈ lw_t2 := t2_3 (List.mem_of_getElem? (i := 232) rfl) rfl
theorem tw_779 : (.selects RX10 yX10_madeCode yX10_madeCode : Cond) ∈ lw_t2 := t2_3 (List.mem_of_getElem? (i := 233) rfl) rfl
theorem tw_780 : (.code yX10_madeCode cX10_madeCode 2 (some (.array .int)) : Cond) ∈ lw_t2 := t2_3 (List.mem_of_getElem? (i := 234) rfl) rfl
theorem tw_781 : (.methodLink RX10 32 yJ9_min_7cf53 : Cond) ∈ lw_t2 := t2_3 (List.mem_of_getElem? (i := 235) rfl) rfl
theorem tw_782 : (.methodLink RX10 38 yJ9_max_7cf53 : Cond) ∈ lw_t2 := t2_3 (List.mem_of_getElem? (i := 236) rfl) rfl
theorem tw_783 : (.methodLink RX10 41 yJ7_copyOf_59c91 : Cond) ∈ lw_t2 := t2_3 (List.mem_of_getElem? (i := 237) rfl) rfl
theorem tw_784 : (.static yJ7_copyOf_59c91 : Cond) ∈ lw_t2 := t2_3 (List.mem_of_getElem? (i := 238) rfl) rfl
theorem tw_785 : (.code yJ7_copyOf_59c91 cJ7_copyOf_59c91 3 (some (.array .int)) : Cond) ∈ lw_t2 := t2_3 (List.mem_of_getElem? (i := 239) rfl) rfl
theorem tw_786 : (.methodLink RJ7 316 ⟨"[I", "clone", "()Ljava/lang/Object;"⟩ : Cond) ∈ lw_t2 := t2_4 (List.mem_of_getElem? (i := 0) rfl) rfl
theorem tw_787 : (.sameMethod "[I" "java/lang/Object" "clone" "()Ljava/lang/Object;" : Cond) ∈ lw_t2 := t2_4 (List.mem_of_getElem? (i := 1) rfl) rfl
theorem tw_788 : (.native ⟨"java/lang/Object", "clone", "()Ljava/lang/Object;"⟩ : Cond) ∈ lw_t2 := t2_4 (List.mem_of_getElem? (i := 2) rfl) rfl
theorem tw_789 : (.instanceMethod ⟨"java/lang/Object", "clone", "()Ljava/lang/Object;"⟩ : Cond) ∈ lw_t2 := t2_4 (List.mem_of_getElem? (i := 3) rfl) rfl
theorem tw_790 : (.selects "[I" ⟨"[I", "clone", "()Ljava/lang/Object;"⟩ ⟨"java/lang/Object", "clone", "()Ljava/lang/Object;"⟩ : Cond) ∈ lw_t2 := t2_4 (List.mem_of_getElem? (i := 4) rfl) rfl
theorem tw_792 : (.classLink RJ7 317 "[I" : Cond) ∈ lw_t2 := t2_4 (List.mem_of_getElem? (i := 6) rfl) rfl
theorem tw_793 : (.methodLink RX11 233 yX9_init : Cond) ∈ lw_t2 := t2_4 (List.mem_of_getElem? (i := 7) rfl) rfl
theorem tw_794 : (.instanceMethod yX9_init : Cond) ∈ lw_t2 := t2_4 (List.mem_of_getElem? (i := 8) rfl) rfl
theorem tw_795 : (.code yX9_init cX9_init 4 none : Cond) ∈ lw_t2 := t2_4 (List.mem_of_getElem? (i := 9) rfl) rfl
theorem tw_796 : (.methodLink RX9 1 ⟨"java/lang/Object", "<init>", "()V"⟩ : Cond) ∈ lw_t2 := t2_4 (List.mem_of_getElem? (i := 10) rfl) rfl
theorem tw_797 : (.methodLink RX9 20 yX9_holds : Cond) ∈ lw_t2 := t2_4 (List.mem_of_getElem? (i := 11) rfl) rfl
theorem tw_798 : (.static yX9_holds : Cond) ∈ lw_t2 := t2_4 (List.mem_of_getElem? (i := 12) rfl) rfl
theorem tw_799 : (.code yX9_holds cX9_holds 6 (some .boolean) : Cond) ∈ lw_t2 := t2_4 (List.mem_of_getElem? (i := 13) rfl) rfl
theorem tw_800 : (.fieldLink RX9 7 "EarPaper$Term" "purpose" "I" : Cond) ∈ lw_t2 := t2_4 (List.mem_of_getElem? (i := 14) rfl) rfl
theorem tw_801 : (.fieldLink RX11 341 "EarPaper$Term" "purpose" "I" : Cond) ∈ lw_t2 := t2_4 (List.mem_of_getElem? (i := 15) rfl) rfl
theorem tw_802 : (.fieldLink RX9 13 "EarPaper$Term" "from" "I" : Cond) ∈ lw_t2 := t2_4 (List.mem_of_getElem? (i := 16) rfl) rfl
theorem tw_803 : (.fieldLink RX11 344 "EarPaper$Term" "from" "I" : Cond) ∈ lw_t2 := t2_4 (List.mem_of_getElem? (i := 17) rfl) rfl
theorem tw_804 : (.fieldLink RX9 16 "EarPaper$Term" "code" "[I" : Cond) ∈ lw_t2 := t2_4 (List.mem_of_getElem? (i := 18) rfl) rfl
theorem tw_805 : (.fieldLink RX11 367 "EarPaper$Term" "code" "[I" : Cond) ∈ lw_t2 := t2_4 (List.mem_of_getElem? (i := 19) rfl) rfl
theorem tw_806 : (.fieldLink RX9 24 "EarPaper$Term" "asksWho" "Z" : Cond) ∈ lw_t2 := t2_4 (List.mem_of_getElem? (i := 20) rfl) rfl
theorem tw_807 : (.fieldLink RX11 378 "EarPaper$Term" "asksWho" "Z" : Cond) ∈ lw_t2 := t2_4 (List.mem_of_getElem? (i := 21) rfl) rfl
theorem tw_808 : (.fieldLink RX9 28 "EarPaper$Term" "asksAge" "Z" : Cond) ∈ lw_t2 := t2_4 (List.mem_of_getElem? (i := 22) rfl) rfl
theorem tw_809 : (.fieldLink RX11 384 "EarPaper$Term" "asksAge" "Z" : Cond) ∈ lw_t2 := t2_4 (List.mem_of_getElem? (i := 23) rfl) rfl
theorem tw_821 : (.methodLink RL 92 yX11_worth : Cond) ∈ lw_t2 := t2_4 (List.mem_of_getElem? (i := 35) rfl) rfl
theorem tw_822 : (.instanceMethod yX11_worth : Cond) ∈ lw_t2 := t2_4 (List.mem_of_getElem? (i := 36) rfl) rfl
theorem tw_823 : (.selects RX11 yX11_worth yX11_worth : Cond) ∈ lw_t2 := t2_4 (List.mem_of_getElem? (i := 37) rfl) rfl
theorem tw_824 : (.code yX11_worth cX11_worth 4 (some .int) : Cond) ∈ lw_t2 := t2_4 (List.mem_of_getElem? (i := 38) rfl) rfl
theorem tw_825 : (.constant RX11 236 (1000000000) : Cond) ∈ lw_t2 := t2_4 (List.mem_of_getElem? (i := 39) rfl) rfl
theorem tw_826 : (.methodLink RX11 237 yX11_worthIn : Cond) ∈ lw_t2 := t2_4 (List.mem_of_getElem? (i := 40) rfl) rfl
theorem tw_828 : (.instanceMethod yX11_worthIn : Cond) ∈ lw_t2 := t2_4 (List.mem_of_getElem? (i := 42) rfl) rfl
theorem tw_829 : (.code yX11_worthIn cX11_worthIn 5 (some .int) : Cond) ∈ lw_t2 := t2_4 (List.mem_of_getElem? (i := 43) rfl) rfl
theorem tw_830 : (.methodLink RX11 374 yX11_valueOf : Cond) ∈ lw_t2 := t2_4 (List.mem_of_getElem? (i := 44) rfl) rfl
theorem tw_832 : (.instanceMethod yX11_valueOf : Cond) ∈ lw_t2 := t2_4 (List.mem_of_getElem? (i := 46) rfl) rfl
theorem tw_833 : (.code yX11_valueOf cX11_valueOf 4 (some .int) : Cond) ∈ lw_t2 := t2_4 (List.mem_of_getElem? (i := 47) rfl) rfl
theorem tw_834 : (.methodLink RL 96 yX11_account : Cond) ∈ lw_t2 := t2_4 (List.mem_of_getElem? (i := 48) rfl) rfl
theorem tw_835 : (.instanceMethod yX11_account : Cond) ∈ lw_t2 := t2_4 (List.mem_of_getElem? (i := 49) rfl) rfl
theorem tw_836 : (.selects RX11 yX11_account yX11_account : Cond) ∈ lw_t2 := t2_4 (List.mem_of_getElem? (i := 50) rfl) rfl
theorem tw_837 : (.code yX11_account cX11_account 9 (some .long) : Cond) ∈ lw_t2 := t2_4 (List.mem_of_getElem? (i := 51) rfl) rfl
theorem tw_838 : (.constantLong RX11 241 (4000000000000000000) : Cond) ∈ lw_t2 := t2_4 (List.mem_of_getElem? (i := 52) rfl) rfl
theorem tw_839 : (.methodLink RX11 243 yX11_evenUntil : Cond) ∈ lw_t2 := t2_4 (List.mem_of_getElem? (i := 53) rfl) rfl
theorem tw_841 : (.instanceMethod yX11_evenUntil : Cond) ∈ lw_t2 := t2_4 (List.mem_of_getElem? (i := 55) rfl) rfl
theorem tw_842 : (.code yX11_evenUntil cX11_evenUntil 6 (some .int) : Cond) ∈ lw_t2 := t2_4 (List.mem_of_getElem? (i := 56) rfl) rfl
theorem tw_843 : (.methodLink RX11 247 yJ9_min_7cf53 : Cond) ∈ lw_t2 := t2_4 (List.mem_of_getElem? (i := 57) rfl) rfl
theorem tw_844 : (.methodLink RX11 253 yX11_sumOf : Cond) ∈ lw_t2 := t2_4 (List.mem_of_getElem? (i := 58) rfl) rfl
theorem tw_846 : (.instanceMethod yX11_sumOf : Cond) ∈ lw_t2 := t2_4 (List.mem_of_getElem? (i := 60) rfl) rfl
theorem tw_847 : (.code yX11_sumOf cX11_sumOf 9 (some .long) : Cond) ∈ lw_t2 := t2_4 (List.mem_of_getElem? (i := 61) rfl) rfl
theorem tw_848 : (.methodLink RL 101 yX11_complain : Cond) ∈ lw_t2 := t2_4 (List.mem_of_getElem? (i := 62) rfl) rfl
theorem tw_849 : (.instanceMethod yX11_complain : Cond) ∈ lw_t2 := t2_4 (List.mem_of_getElem? (i := 63) rfl) rfl
theorem tw_850 : (.selects RX11 yX11_complain yX11_complain : Cond) ∈ lw_t2 := t2_4 (List.mem_of_getElem? (i := 64) rfl) rfl
theorem tw_851 : (.code yX11_complain cX11_complain 4 (some .int) : Cond) ∈ lw_t2 := t2_4 (List.mem_of_getElem? (i := 65) rfl) rfl
theorem tw_852 : (.methodLink RL 106 yX11_breaks : Cond) ∈ lw_t2 := t2_4 (List.mem_of_getElem? (i := 66) rfl) rfl
theorem tw_853 : (.instanceMethod yX11_breaks : Cond) ∈ lw_t2 := t2_4 (List.mem_of_getElem? (i := 67) rfl) rfl
theorem tw_854 : (.selects RX11 yX11_breaks yX11_breaks : Cond) ∈ lw_t2 := t2_4 (List.mem_of_getElem? (i := 68) rfl) rfl
theorem tw_855 : (.code yX11_breaks cX11_breaks 2 (some .int) : Cond) ∈ lw_t2 := t2_4 (List.mem_of_getElem? (i := 69) rfl) rfl
theorem tw_856 : (.methodLink RX11 261 yX3_explain : Cond) ∈ lw_t2 := t2_4 (List.mem_of_getElem? (i := 70) rfl) rfl
theorem tw_857 : (.instanceMethod yX3_explain : Cond) ∈ lw_t2 := t2_4 (List.mem_of_getElem? (i := 71) rfl) rfl
theorem tw_858 : (.selects RX3 yX3_explain yX3_explain : Cond) ∈ lw_t2 := t2_4 (List.mem_of_getElem? (i := 72) rfl) rfl
theorem tw_859 : (.code yX3_explain cX3_explain 9 (some .int) : Cond) ∈ lw_t2 := t2_4 (List.mem_of_getElem? (i := 73) rfl) rfl
theorem tw_860 : (.methodLink RX3 116 yX3_breakable : Cond) ∈ lw_t2 := t2_4 (List.mem_of_getElem? (i := 74) rfl) rfl
theorem tw_862 : (.instanceMethod yX3_breakable : Cond) ∈ lw_t2 := t2_4 (List.mem_of_getElem? (i := 76) rfl) rfl
theorem tw_863 : (.code yX3_breakable cX3_breakable 4 (some .int) : Cond) ∈ lw_t2 := t2_4 (List.mem_of_getElem? (i := 77) rfl) rfl
theorem tw_864 : (.methodLink RX3 119 yJ6_bitCount_0f7a4 : Cond) ∈ lw_t2 := t2_4 (List.mem_of_getElem? (i := 78) rfl) rfl
theorem tw_865 : (.static yJ6_bitCount_0f7a4 : Cond) ∈ lw_t2 := t2_4 (List.mem_of_getElem? (i := 79) rfl) rfl
theorem tw_866 : (.code yJ6_bitCount_0f7a4 cJ6_bitCount_0f7a4 1 (some .int) : Cond) ∈ lw_t2 := t2_4 (List.mem_of_getElem? (i := 80) rfl) rfl
theorem tw_867 : (.constant RJ6 265 (1431655765) : Cond) ∈ lw_t2 := t2_4 (List.mem_of_getElem? (i := 81) rfl) rfl
theorem tw_868 : (.constant RJ6 266 (858993459) : Cond) ∈ lw_t2 := t2_4 (List.mem_of_getElem? (i := 82) rfl) rfl
theorem tw_869 : (.constant RJ6 267 (252645135) : Cond) ∈ lw_t2 := t2_4 (List.mem_of_getElem? (i := 83) rfl) rfl
theorem tw_870 : (.methodLink RX3 124 yX3_hitsAllComplaints : Cond) ∈ lw_t2 := t2_4 (List.mem_of_getElem? (i := 84) rfl) rfl
theorem tw_872 : (.instanceMethod yX3_hitsAllComplaints : Cond) ∈ lw_t2 := t2_4 (List.mem_of_getElem? (i := 86) rfl) rfl
theorem tw_873 : (.code yX3_hitsAllComplaints cX3_hitsAllComplaints 4 (some .boolean) : Cond) ∈ lw_t2 := t2_4 (List.mem_of_getElem? (i := 87) rfl) rfl
theorem tw_874 : (.methodLink RL 110 yX11_could : Cond) ∈ lw_t2 := t2_4 (List.mem_of_getElem? (i := 88) rfl) rfl
theorem tw_875 : (.instanceMethod yX11_could : Cond) ∈ lw_t2 := t2_4 (List.mem_of_getElem? (i := 89) rfl) rfl
theorem tw_876 : (.selects RX11 yX11_could yX11_could : Cond) ∈ lw_t2 := t2_4 (List.mem_of_getElem? (i := 90) rfl) rfl
theorem tw_877 : (.code yX11_could cX11_could 5 (some .int) : Cond) ∈ lw_t2 := t2_4 (List.mem_of_getElem? (i := 91) rfl) rfl
theorem tw_878 : (.methodLink RL 114 yX11_boosts : Cond) ∈ lw_t2 := t2_4 (List.mem_of_getElem? (i := 92) rfl) rfl
theorem tw_879 : (.instanceMethod yX11_boosts : Cond) ∈ lw_t2 := t2_4 (List.mem_of_getElem? (i := 93) rfl) rfl
theorem tw_880 : (.selects RX11 yX11_boosts yX11_boosts : Cond) ∈ lw_t2 := t2_4 (List.mem_of_getElem? (i := 94) rfl) rfl
theorem tw_881 : (.code yX11_boosts cX11_boosts 3 (some .int) : Cond) ∈ lw_t2 := t2_4 (List.mem_of_getElem? (i := 95) rfl) rfl
theorem tw_882 : (.methodLink RX11 270 yX3_fewestBoosts : Cond) ∈ lw_t2 := t2_4 (List.mem_of_getElem? (i := 96) rfl) rfl
theorem tw_883 : (.instanceMethod yX3_fewestBoosts : Cond) ∈ lw_t2 := t2_4 (List.mem_of_getElem? (i := 97) rfl) rfl
theorem tw_884 : (.selects RX3 yX3_fewestBoosts yX3_fewestBoosts : Cond) ∈ lw_t2 := t2_4 (List.mem_of_getElem? (i := 98) rfl) rfl
theorem tw_885 : (.code yX3_fewestBoosts cX3_fewestBoosts 7 (some .int) : Cond) ∈ lw_t2 := t2_4 (List.mem_of_getElem? (i := 99) rfl) rfl
theorem tw_886 : (.methodLink RX3 133 yJ9_min_7cf53 : Cond) ∈ lw_t2 := t2_4 (List.mem_of_getElem? (i := 100) rfl) rfl
theorem tw_887 : (.methodLink RX3 139 yX3_allReachedWith : Cond) ∈ lw_t2 := t2_4 (List.mem_of_getElem? (i := 101) rfl) rfl
theorem tw_889 : (.instanceMethod yX3_allReachedWith : Cond) ∈ lw_t2 := t2_4 (List.mem_of_getElem? (i := 103) rfl) rfl
theorem tw_890 : (.code yX3_allReachedWith cX3_allReachedWith 4 (some .boolean) : Cond) ∈ lw_t2 := t2_4 (List.mem_of_getElem? (i := 104) rfl) rfl
theorem tw_891 : (.methodLink RX3 143 yX3_raise : Cond) ∈ lw_t2 := t2_4 (List.mem_of_getElem? (i := 105) rfl) rfl
theorem tw_893 : (.instanceMethod yX3_raise : Cond) ∈ lw_t2 := t2_4 (List.mem_of_getElem? (i := 107) rfl) rfl
theorem tw_894 : (.code yX3_raise cX3_raise 4 none : Cond) ∈ lw_t2 := t2_4 (List.mem_of_getElem? (i := 108) rfl) rfl
theorem tw_895 : (.methodLink RL 118 yX11_covers : Cond) ∈ lw_t2 := t2_4 (List.mem_of_getElem? (i := 109) rfl) rfl
theorem tw_896 : (.instanceMethod yX11_covers : Cond) ∈ lw_t2 := t2_4 (List.mem_of_getElem? (i := 110) rfl) rfl
theorem tw_897 : (.selects RX11 yX11_covers yX11_covers : Cond) ∈ lw_t2 := t2_4 (List.mem_of_getElem? (i := 111) rfl) rfl
theorem tw_898 : (.code yX11_covers cX11_covers 6 (some .int) : Cond) ∈ lw_t2 := t2_4 (List.mem_of_getElem? (i := 112) rfl) rfl
theorem tw_899 : (.methodLink RX11 273 yX11_correctionRefusal : Cond) ∈ lw_t2 := t2_4 (List.mem_of_getElem? (i := 113) rfl) rfl
theorem tw_900 : (.static yX11_correctionRefusal : Cond) ∈ lw_t2 := t2_4 (List.mem_of_getElem? (i := 114) rfl) rfl
theorem tw_901 : (.code yX11_correctionRefusal cX11_correctionRefusal 3 (some .int) : Cond) ∈ lw_t2 := t2_4 (List.mem_of_getElem? (i := 115) rfl) rfl
theorem tw_902 : (.methodLink RX11 277 yX3_findListeners : Cond) ∈ lw_t2 := t2_4 (List.mem_of_getElem? (i := 116) rfl) rfl
theorem tw_903 : (.instanceMethod yX3_findListeners : Cond) ∈ lw_t2 := t2_4 (List.mem_of_getElem? (i := 117) rfl) rfl
theorem tw_904 : (.selects RX3 yX3_findListeners yX3_findListeners : Cond) ∈ lw_t2 := t2_4 (List.mem_of_getElem? (i := 118) rfl) rfl
theorem tw_905 : (.code yX3_findListeners cX3_findListeners 8 none : Cond) ∈ lw_t2 := t2_4 (List.mem_of_getElem? (i := 119) rfl) rfl
theorem tw_906 : (.methodLink RX3 154 yJ7_fill_d0a16 : Cond) ∈ lw_t2 := t2_4 (List.mem_of_getElem? (i := 120) rfl) rfl
theorem tw_907 : (.static yJ7_fill_d0a16 : Cond) ∈ lw_t2 := t2_4 (List.mem_of_getElem? (i := 121) rfl) rfl
theorem tw_908 : (.code yJ7_fill_d0a16 cJ7_fill_d0a16 5 none : Cond) ∈ lw_t2 := t2_4 (List.mem_of_getElem? (i := 122) rfl) rfl
theorem tw_909 : (.methodLink RX3 160 yX3_addListener : Cond) ∈ lw_t2 := t2_4 (List.mem_of_getElem? (i := 123) rfl) rfl
theorem tw_911 : (.instanceMethod yX3_addListener : Cond) ∈ lw_t2 := t2_4 (List.mem_of_getElem? (i := 125) rfl) rfl
theorem tw_912 : (.code yX3_addListener cX3_addListener 5 none : Cond) ∈ lw_t2 := t2_4 (List.mem_of_getElem? (i := 126) rfl) rfl
theorem tw_913 : (.methodLink RX11 281 yX3_covered : Cond) ∈ lw_t2 := t2_4 (List.mem_of_getElem? (i := 127) rfl) rfl
theorem tw_914 : (.instanceMethod yX3_covered : Cond) ∈ lw_t2 := t2_4 (List.mem_of_getElem? (i := 128) rfl) rfl
theorem tw_915 : (.selects RX3 yX3_covered yX3_covered : Cond) ∈ lw_t2 := t2_4 (List.mem_of_getElem? (i := 129) rfl) rfl
theorem tw_916 : (.code yX3_covered cX3_covered 7 (some .int) : Cond) ∈ lw_t2 := t2_4 (List.mem_of_getElem? (i := 130) rfl) rfl
theorem tw_917 : (.methodLink RX3 164 yJ13_bitCount_95d88 : Cond) ∈ lw_t2 := t2_4 (List.mem_of_getElem? (i := 131) rfl) rfl
theorem tw_918 : (.static yJ13_bitCount_95d88 : Cond) ∈ lw_t2 := t2_4 (List.mem_of_getElem? (i := 132) rfl) rfl
theorem tw_919 : (.code yJ13_bitCount_95d88 cJ13_bitCount_95d88 2 (some .int) : Cond) ∈ lw_t2 := t2_4 (List.mem_of_getElem? (i := 133) rfl) rfl
theorem tw_920 : (.constantLong RJ13 314 (6148914691236517205) : Cond) ∈ lw_t2 := t2_4 (List.mem_of_getElem? (i := 134) rfl) rfl
theorem tw_921 : (.constantLong RJ13 316 (3689348814741910323) : Cond) ∈ lw_t2 := t2_4 (List.mem_of_getElem? (i := 135) rfl) rfl
theorem tw_922 : (.constantLong RJ13 318 (1085102592571150095) : Cond) ∈ lw_t2 := t2_4 (List.mem_of_getElem? (i := 136) rfl) rfl
theorem tw_923 : (.methodLink RL 122 yX11_rights : Cond) ∈ lw_t2 := t2_4 (List.mem_of_getElem? (i := 137) rfl) rfl
theorem tw_924 : (.instanceMethod yX11_rights : Cond) ∈ lw_t2 := t2_4 (List.mem_of_getElem? (i := 138) rfl) rfl
theorem tw_925 : (.selects RX11 yX11_rights yX11_rights : Cond) ∈ lw_t2 := t2_4 (List.mem_of_getElem? (i := 139) rfl) rfl
theorem tw_926 : (.code yX11_rights cX11_rights 7 (some .int) : Cond) ∈ lw_t2 := t2_4 (List.mem_of_getElem? (i := 140) rfl) rfl
theorem tw_927 : (.methodLink RX11 284 yJ6_bitCount_0f7a4 : Cond) ∈ lw_t2 := t2_4 (List.mem_of_getElem? (i := 141) rfl) rfl
theorem tw_928 : (.methodLink RX11 289 yX3_fewestHours : Cond) ∈ lw_t2 := t2_4 (List.mem_of_getElem? (i := 142) rfl) rfl
theorem tw_929 : (.instanceMethod yX3_fewestHours : Cond) ∈ lw_t2 := t2_4 (List.mem_of_getElem? (i := 143) rfl) rfl
theorem tw_930 : (.selects RX3 yX3_fewestHours yX3_fewestHours : Cond) ∈ lw_t2 := t2_4 (List.mem_of_getElem? (i := 144) rfl) rfl
theorem tw_931 : (.code yX3_fewestHours cX3_fewestHours 8 (some .int) : Cond) ∈ lw_t2 := t2_4 (List.mem_of_getElem? (i := 145) rfl) rfl
theorem tw_932 : (.methodLink RX3 169 yX3_covered : Cond) ∈ lw_t2 := t2_4 (List.mem_of_getElem? (i := 146) rfl) rfl
theorem tw_933 : (.methodLink RL 126 yX11_news : Cond) ∈ lw_t2 := t2_4 (List.mem_of_getElem? (i := 147) rfl) rfl
theorem tw_934 : (.instanceMethod yX11_news : Cond) ∈ lw_t2 := t2_4 (List.mem_of_getElem? (i := 148) rfl) rfl
theorem tw_935 : (.selects RX11 yX11_news yX11_news : Cond) ∈ lw_t2 := t2_4 (List.mem_of_getElem? (i := 149) rfl) rfl
theorem tw_936 : (.code yX11_news cX11_news 3 (some .int) : Cond) ∈ lw_t2 := t2_4 (List.mem_of_getElem? (i := 150) rfl) rfl
theorem tw_937 : (.instantiable RX4 3 : Cond) ∈ lw_t2 := t2_4 (List.mem_of_getElem? (i := 151) rfl) rfl
theorem tw_938 : (.methodLink RX11 294 yX4_init : Cond) ∈ lw_t2 := t2_4 (List.mem_of_getElem? (i := 152) rfl) rfl
theorem tw_939 : (.instanceMethod yX4_init : Cond) ∈ lw_t2 := t2_4 (List.mem_of_getElem? (i := 153) rfl) rfl
theorem tw_940 : (.code yX4_init cX4_init 2 none : Cond) ∈ lw_t2 := t2_4 (List.mem_of_getElem? (i := 154) rfl) rfl
theorem tw_941 : (.methodLink RX4 3 ⟨"java/lang/Object", "<init>", "()V"⟩ : Cond) ∈ lw_t2 := t2_4 (List.mem_of_getElem? (i := 155) rfl) rfl
theorem tw_942 : (.fieldLink RX4 18 "EarPaper$News" "cameIn" "I" : Cond) ∈ lw_t2 := t2_4 (List.mem_of_getElem? (i := 156) rfl) rfl
theorem tw_943 : (.fieldLink RX11 306 "EarPaper$News" "cameIn" "I" : Cond) ∈ lw_t2 := t2_4 (List.mem_of_getElem? (i := 157) rfl) rfl
theorem tw_944 : (.fieldLink RX4 9 "EarPaper$News" "printedIn" "I" : Cond) ∈ lw_t2 := t2_4 (List.mem_of_getElem? (i := 158) rfl) rfl
theorem tw_945 : (.fieldLink RX11 299 "EarPaper$News" "printedIn" "I" : Cond) ∈ lw_t2 := t2_4 (List.mem_of_getElem? (i := 159) rfl) rfl
theorem tw_946 : (.fieldLink RX4 15 "EarPaper$News" "firstRead" "I" : Cond) ∈ lw_t2 := t2_4 (List.mem_of_getElem? (i := 160) rfl) rfl
theorem tw_947 : (.fieldLink RX11 338 "EarPaper$News" "firstRead" "I" : Cond) ∈ lw_t2 := t2_4 (List.mem_of_getElem? (i := 161) rfl) rfl
theorem tw_955 : (.methodLink RL 131 yX11_printed : Cond) ∈ lw_t2 := t2_4 (List.mem_of_getElem? (i := 169) rfl) rfl
theorem tw_956 : (.instanceMethod yX11_printed : Cond) ∈ lw_t2 := t2_4 (List.mem_of_getElem? (i := 170) rfl) rfl
theorem tw_957 : (.selects RX11 yX11_printed yX11_printed : Cond) ∈ lw_t2 := t2_4 (List.mem_of_getElem? (i := 171) rfl) rfl
theorem tw_958 : (.code yX11_printed cX11_printed 4 (some .int) : Cond) ∈ lw_t2 := t2_4 (List.mem_of_getElem? (i := 172) rfl) rfl
theorem tw_959 : (.methodLink RL 135 yX11_lag : Cond) ∈ lw_t2 := t2_4 (List.mem_of_getElem? (i := 173) rfl) rfl
theorem tw_960 : (.instanceMethod yX11_lag : Cond) ∈ lw_t2 := t2_4 (List.mem_of_getElem? (i := 174) rfl) rfl
theorem tw_961 : (.selects RX11 yX11_lag yX11_lag : Cond) ∈ lw_t2 := t2_4 (List.mem_of_getElem? (i := 175) rfl) rfl
theorem tw_962 : (.code yX11_lag cX11_lag 5 (some .int) : Cond) ∈ lw_t2 := t2_4 (List.mem_of_getElem? (i := 176) rfl) rfl
theorem tw_963 : (.methodLink RX11 302 yX11_readRefusal : Cond) ∈ lw_t2 := t2_4 (List.mem_of_getElem? (i := 177) rfl) rfl
theorem tw_964 : (.static yX11_readRefusal : Cond) ∈ lw_t2 := t2_4 (List.mem_of_getElem? (i := 178) rfl) rfl
theorem tw_965 : (.code yX11_readRefusal cX11_readRefusal 1 (some .int) : Cond) ∈ lw_t2 := t2_4 (List.mem_of_getElem? (i := 179) rfl) rfl
theorem tw_966 : (.methodLink RL 139 yX11_fresh : Cond) ∈ lw_t2 := t2_4 (List.mem_of_getElem? (i := 180) rfl) rfl
theorem tw_967 : (.instanceMethod yX11_fresh : Cond) ∈ lw_t2 := t2_4 (List.mem_of_getElem? (i := 181) rfl) rfl
theorem tw_968 : (.selects RX11 yX11_fresh yX11_fresh : Cond) ∈ lw_t2 := t2_4 (List.mem_of_getElem? (i := 182) rfl) rfl
theorem tw_969 : (.code yX11_fresh cX11_fresh 5 (some .int) : Cond) ∈ lw_t2 := t2_4 (List.mem_of_getElem? (i := 183) rfl) rfl
theorem tw_970 : (.methodLink RX11 309 yX4_isFreshIn : Cond) ∈ lw_t2 := t2_4 (List.mem_of_getElem? (i := 184) rfl) rfl
theorem tw_971 : (.instanceMethod yX4_isFreshIn : Cond) ∈ lw_t2 := t2_4 (List.mem_of_getElem? (i := 185) rfl) rfl
theorem tw_972 : (.selects RX4 yX4_isFreshIn yX4_isFreshIn : Cond) ∈ lw_t2 := t2_4 (List.mem_of_getElem? (i := 186) rfl) rfl
theorem tw_973 : (.code yX4_isFreshIn cX4_isFreshIn 2 (some .boolean) : Cond) ∈ lw_t2 := t2_4 (List.mem_of_getElem? (i := 187) rfl) rfl
theorem tw_974 : (.methodLink RL 143 yX11_advert : Cond) ∈ lw_t2 := t2_4 (List.mem_of_getElem? (i := 188) rfl) rfl
theorem tw_975 : (.instanceMethod yX11_advert : Cond) ∈ lw_t2 := t2_4 (List.mem_of_getElem? (i := 189) rfl) rfl
theorem tw_976 : (.selects RX11 yX11_advert yX11_advert : Cond) ∈ lw_t2 := t2_4 (List.mem_of_getElem? (i := 190) rfl) rfl
theorem tw_977 : (.code yX11_advert cX11_advert 3 (some .int) : Cond) ∈ lw_t2 := t2_4 (List.mem_of_getElem? (i := 191) rfl) rfl
theorem tw_978 : (.methodLink RL 147 yX11_sold : Cond) ∈ lw_t2 := t2_4 (List.mem_of_getElem? (i := 192) rfl) rfl
theorem tw_979 : (.instanceMethod yX11_sold : Cond) ∈ lw_t2 := t2_4 (List.mem_of_getElem? (i := 193) rfl) rfl
theorem tw_980 : (.selects RX11 yX11_sold yX11_sold : Cond) ∈ lw_t2 := t2_4 (List.mem_of_getElem? (i := 194) rfl) rfl
theorem tw_981 : (.code yX11_sold cX11_sold 4 (some .int) : Cond) ∈ lw_t2 := t2_4 (List.mem_of_getElem? (i := 195) rfl) rfl
theorem tw_982 : (.methodLink RL 151 yX11_put : Cond) ∈ lw_t2 := t2_4 (List.mem_of_getElem? (i := 196) rfl) rfl
theorem tw_983 : (.instanceMethod yX11_put : Cond) ∈ lw_t2 := t2_4 (List.mem_of_getElem? (i := 197) rfl) rfl
theorem tw_984 : (.selects RX11 yX11_put yX11_put : Cond) ∈ lw_t2 := t2_4 (List.mem_of_getElem? (i := 198) rfl) rfl
theorem tw_985 : (.code yX11_put cX11_put 2 (some .int) : Cond) ∈ lw_t2 := t2_4 (List.mem_of_getElem? (i := 199) rfl) rfl
theorem tw_986 : (.methodLink RL 155 yX11_judge : Cond) ∈ lw_t2 := t2_4 (List.mem_of_getElem? (i := 200) rfl) rfl
theorem tw_987 : (.instanceMethod yX11_judge : Cond) ∈ lw_t2 := t2_4 (List.mem_of_getElem? (i := 201) rfl) rfl
theorem tw_988 : (.selects RX11 yX11_judge yX11_judge : Cond) ∈ lw_t2 := t2_4 (List.mem_of_getElem? (i := 202) rfl) rfl
theorem tw_989 : (.code yX11_judge cX11_judge 4 (some .int) : Cond) ∈ lw_t2 := t2_4 (List.mem_of_getElem? (i := 203) rfl) rfl
theorem tw_990 : (.methodLink RL 160 yX11_order : Cond) ∈ lw_t2 := t2_4 (List.mem_of_getElem? (i := 204) rfl) rfl
theorem tw_991 : (.instanceMethod yX11_order : Cond) ∈ lw_t2 := t2_4 (List.mem_of_getElem? (i := 205) rfl) rfl
theorem tw_992 : (.selects RX11 yX11_order yX11_order : Cond) ∈ lw_t2 := t2_4 (List.mem_of_getElem? (i := 206) rfl) rfl
theorem tw_993 : (.code yX11_order cX11_order 8 (some .int) : Cond) ∈ lw_t2 := t2_4 (List.mem_of_getElem? (i := 207) rfl) rfl
theorem tw_994 : (.methodLink RX11 318 yX11_firstFair : Cond) ∈ lw_t2 := t2_4 (List.mem_of_getElem? (i := 208) rfl) rfl
theorem tw_995 : (.static yX11_firstFair : Cond) ∈ lw_t2 := t2_4 (List.mem_of_getElem? (i := 209) rfl) rfl
theorem tw_996 : (.code yX11_firstFair cX11_firstFair 8 (some .int) : Cond) ∈ lw_t2 := t2_4 (List.mem_of_getElem? (i := 210) rfl) rfl
theorem tw_997 : (.methodLink RX11 387 yJ9_max_7cf53 : Cond) ∈ lw_t2 := t2_4 (List.mem_of_getElem? (i := 211) rfl) rfl
theorem tw_998 : (.methodLink RX11 390 yX11_fairOrder : Cond) ∈ lw_t2 := t2_4 (List.mem_of_getElem? (i := 212) rfl) rfl
theorem tw_999 : (.static yX11_fairOrder : Cond) ∈ lw_t2 := t2_4 (List.mem_of_getElem? (i := 213) rfl) rfl
theorem tw_1000 : (.code yX11_fairOrder cX11_fairOrder 12 (some .int) : Cond) ∈ lw_t2 := t2_4 (List.mem_of_getElem? (i := 214) rfl) rfl
theorem tw_1001 : (.methodLink RL 164 yX11_check : Cond) ∈ lw_t2 := t2_4 (List.mem_of_getElem? (i := 215) rfl) rfl
theorem tw_1002 : (.instanceMethod yX11_check : Cond) ∈ lw_t2 := t2_4 (List.mem_of_getElem? (i := 216) rfl) rfl
theorem tw_1003 : (.selects RX11 yX11_check yX11_check : Cond) ∈ lw_t2 := t2_4 (List.mem_of_getElem? (i := 217) rfl) rfl
theorem tw_1004 : (.code yX11_check cX11_check 5 (some .int) : Cond) ∈ lw_t2 := t2_4 (List.mem_of_getElem? (i := 218) rfl) rfl
theorem tw_1005 : (.methodLink RL 168 yX11_count : Cond) ∈ lw_t2 := t2_4 (List.mem_of_getElem? (i := 219) rfl) rfl
theorem tw_1006 : (.instanceMethod yX11_count : Cond) ∈ lw_t2 := t2_4 (List.mem_of_getElem? (i := 220) rfl) rfl
theorem tw_1007 : (.selects RX11 yX11_count yX11_count : Cond) ∈ lw_t2 := t2_4 (List.mem_of_getElem? (i := 221) rfl) rfl
theorem tw_1008 : (.code yX11_count cX11_count 2 (some .int) : Cond) ∈ lw_t2 := t2_4 (List.mem_of_getElem? (i := 222) rfl) rfl
theorem tw_1009 : (.methodLink RX11 325 yX3_complaints : Cond) ∈ lw_t2 := t2_4 (List.mem_of_getElem? (i := 223) rfl) rfl
theorem tw_1010 : (.instanceMethod yX3_complaints : Cond) ∈ lw_t2 := t2_4 (List.mem_of_getElem? (i := 224) rfl) rfl
theorem tw_1011 : (.selects RX3 yX3_complaints yX3_complaints : Cond) ∈ lw_t2 := t2_4 (List.mem_of_getElem? (i := 225) rfl) rfl
theorem tw_1012 : (.code yX3_complaints cX3_complaints 3 (some .int) : Cond) ∈ lw_t2 := t2_4 (List.mem_of_getElem? (i := 226) rfl) rfl
theorem tw_1013 : (.methodLink RX11 331 yX11_refusedSoFar : Cond) ∈ lw_t2 := t2_4 (List.mem_of_getElem? (i := 227) rfl) rfl
theorem tw_1015 : (.instanceMethod yX11_refusedSoFar : Cond) ∈ lw_t2 := t2_4 (List.mem_of_getElem? (i := 229) rfl) rfl
theorem tw_1016 : (.code yX11_refusedSoFar cX11_refusedSoFar 3 (some .int) : Cond) ∈ lw_t2 := t2_4 (List.mem_of_getElem? (i := 230) rfl) rfl
theorem tw_1017 : (.classLink RL 10 RX12 : Cond) ∈ lw_t2 := t2_4 (List.mem_of_getElem? (i := 231) rfl) rfl
theorem tw_1018 : (.instantiable RX12 70 : Cond) ∈ lw_t2 := t2_4 (List.mem_of_getElem? (i := 232) rfl) rfl
theorem tw_1019 : (.methodLink RL 12 yX12_init : Cond) ∈ lw_t2 := t2_4 (List.mem_of_getElem? (i := 233) rfl) rfl
theorem tw_1020 : (.instanceMethod yX12_init : Cond) ∈ lw_t2 := t2_4 (List.mem_of_getElem? (i := 234) rfl) rfl
theorem tw_1021 : (.code yX12_init cX12_init 1 none : Cond) ∈ lw_t2 := t2_4 (List.mem_of_getElem? (i := 235) rfl) rfl
theorem tw_1022 : (.methodLink RX12 1 ⟨"java/lang/Object", "<init>", "()V"⟩ : Cond) ∈ lw_t2 := t2_4 (List.mem_of_getElem? (i := 236) rfl) rfl
theorem tw_1023 : (.fieldLink RX12 7 "EarPaperModel" "refusals" "[I" : Cond) ∈ lw_t2 := t2_4 (List.mem_of_getElem? (i := 237) rfl) rfl
theorem tw_1024 : (.fieldLink RX12 13 "EarPaperModel" "on" "[I" : Cond) ∈ lw_t2 := t2_4 (List.mem_of_getElem? (i := 238) rfl) rfl
theorem tw_1025 : (.fieldLink RX12 16 "EarPaperModel" "wire" "[I" : Cond) ∈ lw_t2 := t2_4 (List.mem_of_getElem? (i := 239) rfl) rfl
theorem tw_1026 : (.fieldLink RX12 19 "EarPaperModel" "boosted" "[I" : Cond) ∈ lw_t2 := t2_5 (List.mem_of_getElem? (i := 0) rfl) rfl
theorem tw_1027 : (.fieldLink RX12 22 "EarPaperModel" "more" "[I" : Cond) ∈ lw_t2 := t2_5 (List.mem_of_getElem? (i := 1) rfl) rfl
theorem tw_1028 : (.fieldLink RX12 25 "EarPaperModel" "cutNode" "[I" : Cond) ∈ lw_t2 := t2_5 (List.mem_of_getElem? (i := 2) rfl) rfl
theorem tw_1029 : (.fieldLink RX12 28 "EarPaperModel" "cutFrom" "[I" : Cond) ∈ lw_t2 := t2_5 (List.mem_of_getElem? (i := 3) rfl) rfl
theorem tw_1030 : (.fieldLink RX12 31 "EarPaperModel" "cutTo" "[I" : Cond) ∈ lw_t2 := t2_5 (List.mem_of_getElem? (i := 4) rfl) rfl
theorem tw_1031 : (.fieldLink RX12 34 "EarPaperModel" "homeNode" "[I" : Cond) ∈ lw_t2 := t2_5 (List.mem_of_getElem? (i := 5) rfl) rfl
theorem tw_1032 : (.fieldLink RX12 37 "EarPaperModel" "ears" "[I" : Cond) ∈ lw_t2 := t2_5 (List.mem_of_getElem? (i := 6) rfl) rfl
theorem tw_1033 : (.fieldLink RX12 40 "EarPaperModel" "surely" "[I" : Cond) ∈ lw_t2 := t2_5 (List.mem_of_getElem? (i := 7) rfl) rfl
theorem tw_1034 : (.fieldLink RX12 43 "EarPaperModel" "maybe" "[I" : Cond) ∈ lw_t2 := t2_5 (List.mem_of_getElem? (i := 8) rfl) rfl
theorem tw_1035 : (.fieldLink RX12 46 "EarPaperModel" "complains" "[Z" : Cond) ∈ lw_t2 := t2_5 (List.mem_of_getElem? (i := 9) rfl) rfl
theorem tw_1036 : (.fieldLink RX12 50 "EarPaperModel" "voice" "[I" : Cond) ∈ lw_t2 := t2_5 (List.mem_of_getElem? (i := 10) rfl) rfl
theorem tw_1037 : (.fieldLink RX12 53 "EarPaperModel" "lastRead" "[I" : Cond) ∈ lw_t2 := t2_5 (List.mem_of_getElem? (i := 11) rfl) rfl
theorem tw_1038 : (.fieldLink RX12 56 "EarPaperModel" "run" "[I" : Cond) ∈ lw_t2 := t2_5 (List.mem_of_getElem? (i := 12) rfl) rfl
theorem tw_1039 : (.fieldLink RX12 59 "EarPaperModel" "kind" "[I" : Cond) ∈ lw_t2 := t2_5 (List.mem_of_getElem? (i := 13) rfl) rfl
theorem tw_1040 : (.fieldLink RX12 62 "EarPaperModel" "reader" "[I" : Cond) ∈ lw_t2 := t2_5 (List.mem_of_getElem? (i := 14) rfl) rfl
theorem tw_1041 : (.fieldLink RX12 65 "EarPaperModel" "said" "[I" : Cond) ∈ lw_t2 := t2_5 (List.mem_of_getElem? (i := 15) rfl) rfl
theorem tw_1042 : (.fieldLink RX12 68 "EarPaperModel" "of" "[I" : Cond) ∈ lw_t2 := t2_5 (List.mem_of_getElem? (i := 16) rfl) rfl
theorem tw_1043 : (.fieldLink RX12 71 "EarPaperModel" "weathers" "[I" : Cond) ∈ lw_t2 := t2_5 (List.mem_of_getElem? (i := 17) rfl) rfl
theorem tw_1044 : (.fieldLink RX12 74 "EarPaperModel" "textSize" "[I" : Cond) ∈ lw_t2 := t2_5 (List.mem_of_getElem? (i := 18) rfl) rfl
theorem tw_1045 : (.fieldLink RX12 77 "EarPaperModel" "purpose" "[I" : Cond) ∈ lw_t2 := t2_5 (List.mem_of_getElem? (i := 19) rfl) rfl
theorem tw_1046 : (.fieldLink RX12 80 "EarPaperModel" "termFrom" "[I" : Cond) ∈ lw_t2 := t2_5 (List.mem_of_getElem? (i := 20) rfl) rfl
theorem tw_1047 : (.fieldLink RX12 83 "EarPaperModel" "text" "[I" : Cond) ∈ lw_t2 := t2_5 (List.mem_of_getElem? (i := 21) rfl) rfl
theorem tw_1048 : (.fieldLink RX12 86 "EarPaperModel" "couldNode" "[I" : Cond) ∈ lw_t2 := t2_5 (List.mem_of_getElem? (i := 22) rfl) rfl
theorem tw_1049 : (.fieldLink RX12 89 "EarPaperModel" "couldGain" "[I" : Cond) ∈ lw_t2 := t2_5 (List.mem_of_getElem? (i := 23) rfl) rfl
theorem tw_1050 : (.fieldLink RX12 92 "EarPaperModel" "came" "[I" : Cond) ∈ lw_t2 := t2_5 (List.mem_of_getElem? (i := 24) rfl) rfl
theorem tw_1051 : (.fieldLink RX12 95 "EarPaperModel" "printed" "[I" : Cond) ∈ lw_t2 := t2_5 (List.mem_of_getElem? (i := 25) rfl) rfl
theorem tw_1052 : (.fieldLink RX12 98 "EarPaperModel" "adverts" "[I" : Cond) ∈ lw_t2 := t2_5 (List.mem_of_getElem? (i := 26) rfl) rfl
theorem tw_1053 : (.fieldLink RX12 101 "EarPaperModel" "row" "[I" : Cond) ∈ lw_t2 := t2_5 (List.mem_of_getElem? (i := 27) rfl) rfl
theorem tw_1054 : (.fieldLink RX12 169 "EarPaperModel" "now" "I" : Cond) ∈ lw_t2 := t2_5 (List.mem_of_getElem? (i := 28) rfl) rfl
theorem tw_1055 : (.fieldLink RX12 104 "EarPaperModel" "nodes" "I" : Cond) ∈ lw_t2 := t2_5 (List.mem_of_getElem? (i := 29) rfl) rfl
theorem tw_1056 : (.fieldLink RX12 172 "EarPaperModel" "weather" "I" : Cond) ∈ lw_t2 := t2_5 (List.mem_of_getElem? (i := 30) rfl) rfl
theorem tw_1057 : (.fieldLink RX12 191 "EarPaperModel" "cuts" "I" : Cond) ∈ lw_t2 := t2_5 (List.mem_of_getElem? (i := 31) rfl) rfl
theorem tw_1058 : (.fieldLink RX12 166 "EarPaperModel" "homes" "I" : Cond) ∈ lw_t2 := t2_5 (List.mem_of_getElem? (i := 32) rfl) rfl
theorem tw_1059 : (.fieldLink RX12 108 "EarPaperModel" "least" "I" : Cond) ∈ lw_t2 := t2_5 (List.mem_of_getElem? (i := 33) rfl) rfl
theorem tw_1060 : (.fieldLink RX12 208 "EarPaperModel" "readers" "I" : Cond) ∈ lw_t2 := t2_5 (List.mem_of_getElem? (i := 34) rfl) rfl
theorem tw_1061 : (.fieldLink RX12 111 "EarPaperModel" "longest" "I" : Cond) ∈ lw_t2 := t2_5 (List.mem_of_getElem? (i := 35) rfl) rfl
theorem tw_1062 : (.fieldLink RX12 114 "EarPaperModel" "rest" "I" : Cond) ∈ lw_t2 := t2_5 (List.mem_of_getElem? (i := 36) rfl) rfl
theorem tw_1063 : (.fieldLink RX12 303 "EarPaperModel" "terms" "I" : Cond) ∈ lw_t2 := t2_5 (List.mem_of_getElem? (i := 37) rfl) rfl
theorem tw_1064 : (.fieldLink RX12 339 "EarPaperModel" "coulds" "I" : Cond) ∈ lw_t2 := t2_5 (List.mem_of_getElem? (i := 38) rfl) rfl
theorem tw_1065 : (.fieldLink RX12 220 "EarPaperModel" "news" "I" : Cond) ∈ lw_t2 := t2_5 (List.mem_of_getElem? (i := 39) rfl) rfl
theorem tw_1066 : (.fieldLink RX12 361 "EarPaperModel" "advertMany" "I" : Cond) ∈ lw_t2 := t2_5 (List.mem_of_getElem? (i := 40) rfl) rfl
theorem tw_1067 : (.fieldLink RX12 364 "EarPaperModel" "rowed" "I" : Cond) ∈ lw_t2 := t2_5 (List.mem_of_getElem? (i := 41) rfl) rfl
theorem tw_1068 : (.fieldLink RX12 214 "EarPaperModel" "solds" "I" : Cond) ∈ lw_t2 := t2_5 (List.mem_of_getElem? (i := 42) rfl) rfl
theorem tw_1069 : (.fieldLink RX12 117 "EarPaperModel" "loud" "[I" : Cond) ∈ lw_t2 := t2_5 (List.mem_of_getElem? (i := 43) rfl) rfl
theorem tw_1070 : (.fieldLink RX12 232 "EarPaperModel" "sure" "I" : Cond) ∈ lw_t2 := t2_5 (List.mem_of_getElem? (i := 44) rfl) rfl
theorem tw_1071 : (.fieldLink RX12 235 "EarPaperModel" "most" "I" : Cond) ∈ lw_t2 := t2_5 (List.mem_of_getElem? (i := 45) rfl) rfl
theorem tw_1072 : (.fieldLink RX12 120 "EarPaperModel" "told" "I" : Cond) ∈ lw_t2 := t2_5 (List.mem_of_getElem? (i := 46) rfl) rfl
theorem tw_1073 : (.fieldLink RX12 123 "EarPaperModel" "sureOf" "[I" : Cond) ∈ lw_t2 := t2_5 (List.mem_of_getElem? (i := 47) rfl) rfl
theorem tw_1074 : (.fieldLink RX12 126 "EarPaperModel" "mostOf" "[I" : Cond) ∈ lw_t2 := t2_5 (List.mem_of_getElem? (i := 48) rfl) rfl
theorem tw_1075 : (.fieldLink RX12 129 "EarPaperModel" "foundAt" "[I" : Cond) ∈ lw_t2 := t2_5 (List.mem_of_getElem? (i := 49) rfl) rfl
theorem tw_1076 : (.fieldLink RX12 132 "EarPaperModel" "tape" "[I" : Cond) ∈ lw_t2 := t2_5 (List.mem_of_getElem? (i := 50) rfl) rfl
theorem tw_1077 : (.fieldLink RX12 135 "EarPaperModel" "letters" "[I" : Cond) ∈ lw_t2 := t2_5 (List.mem_of_getElem? (i := 51) rfl) rfl
theorem tw_1078 : (.fieldLink RX12 252 "EarPaperModel" "taped" "I" : Cond) ∈ lw_t2 := t2_5 (List.mem_of_getElem? (i := 52) rfl) rfl
theorem tw_1079 : (.fieldLink RX12 257 "EarPaperModel" "at" "I" : Cond) ∈ lw_t2 := t2_5 (List.mem_of_getElem? (i := 53) rfl) rfl
theorem tw_1080 : (.fieldLink RX12 291 "EarPaperModel" "deep" "I" : Cond) ∈ lw_t2 := t2_5 (List.mem_of_getElem? (i := 54) rfl) rfl
theorem tw_1081 : (.fieldLink RX12 263 "EarPaperModel" "base" "I" : Cond) ∈ lw_t2 := t2_5 (List.mem_of_getElem? (i := 55) rfl) rfl
theorem tw_1082 : (.fieldLink RX12 260 "EarPaperModel" "size" "I" : Cond) ∈ lw_t2 := t2_5 (List.mem_of_getElem? (i := 56) rfl) rfl
theorem tw_1083 : (.fieldLink RX12 270 "EarPaperModel" "isWell" "Z" : Cond) ∈ lw_t2 := t2_5 (List.mem_of_getElem? (i := 57) rfl) rfl
theorem tw_1084 : (.fieldLink RX12 138 "EarPaperModel" "force" "[I" : Cond) ∈ lw_t2 := t2_5 (List.mem_of_getElem? (i := 58) rfl) rfl
theorem tw_1085 : (.fieldLink RX12 141 "EarPaperModel" "lastTerm" "[I" : Cond) ∈ lw_t2 := t2_5 (List.mem_of_getElem? (i := 59) rfl) rfl
theorem tw_1086 : (.fieldLink RX12 144 "EarPaperModel" "lastWorth" "[I" : Cond) ∈ lw_t2 := t2_5 (List.mem_of_getElem? (i := 60) rfl) rfl
theorem tw_1087 : (.fieldLink RX12 147 "EarPaperModel" "lastLetters" "[I" : Cond) ∈ lw_t2 := t2_5 (List.mem_of_getElem? (i := 61) rfl) rfl
theorem tw_1088 : (.fieldLink RX12 150 "EarPaperModel" "heardIt" "[Z" : Cond) ∈ lw_t2 := t2_5 (List.mem_of_getElem? (i := 62) rfl) rfl
theorem tw_1089 : (.fieldLink RX12 153 "EarPaperModel" "wouldHear" "[Z" : Cond) ∈ lw_t2 := t2_5 (List.mem_of_getElem? (i := 63) rfl) rfl
theorem tw_1090 : (.fieldLink RX12 156 "EarPaperModel" "hoursOf" "[I" : Cond) ∈ lw_t2 := t2_5 (List.mem_of_getElem? (i := 64) rfl) rfl
theorem tw_1091 : (.fieldLink RX12 342 "EarPaperModel" "counted" "I" : Cond) ∈ lw_t2 := t2_5 (List.mem_of_getElem? (i := 65) rfl) rfl
theorem tw_1092 : (.fieldLink RX12 159 "EarPaperModel" "left" "[I" : Cond) ∈ lw_t2 := t2_5 (List.mem_of_getElem? (i := 66) rfl) rfl
theorem tw_1234 : (.arrayClass .boolean : Cond) ∈ lw_t2 := t2_5 (List.mem_of_getElem? (i := 208) rfl) rfl
theorem tw_1235 : (.methodLink RL 17 yX12_pass : Cond) ∈ lw_t2 := t2_5 (List.mem_of_getElem? (i := 209) rfl) rfl
theorem tw_1236 : (.instanceMethod yX12_pass : Cond) ∈ lw_t2 := t2_5 (List.mem_of_getElem? (i := 210) rfl) rfl
theorem tw_1237 : (.selects RX12 yX12_pass yX12_pass : Cond) ∈ lw_t2 := t2_5 (List.mem_of_getElem? (i := 211) rfl) rfl
theorem tw_1238 : (.code yX12_pass cX12_pass 3 (some .int) : Cond) ∈ lw_t2 := t2_5 (List.mem_of_getElem? (i := 212) rfl) rfl
theorem tw_1239 : (.methodLink RX12 175 yX12_refuse : Cond) ∈ lw_t2 := t2_5 (List.mem_of_getElem? (i := 213) rfl) rfl
theorem tw_1241 : (.instanceMethod yX12_refuse : Cond) ∈ lw_t2 := t2_5 (List.mem_of_getElem? (i := 215) rfl) rfl
theorem tw_1242 : (.code yX12_refuse cX12_refuse 2 (some .int) : Cond) ∈ lw_t2 := t2_5 (List.mem_of_getElem? (i := 216) rfl) rfl
theorem tw_1243 : (.methodLink RX12 179 yX12_goesBy : Cond) ∈ lw_t2 := t2_5 (List.mem_of_getElem? (i := 217) rfl) rfl
theorem tw_1245 : (.instanceMethod yX12_goesBy : Cond) ∈ lw_t2 := t2_5 (List.mem_of_getElem? (i := 219) rfl) rfl
theorem tw_1246 : (.code yX12_goesBy cX12_goesBy 5 (some .int) : Cond) ∈ lw_t2 := t2_5 (List.mem_of_getElem? (i := 220) rfl) rfl
theorem tw_1247 : (.methodLink RL 22 yX12_node : Cond) ∈ lw_t2 := t2_5 (List.mem_of_getElem? (i := 221) rfl) rfl
theorem tw_1248 : (.instanceMethod yX12_node : Cond) ∈ lw_t2 := t2_5 (List.mem_of_getElem? (i := 222) rfl) rfl
theorem tw_1249 : (.selects RX12 yX12_node yX12_node : Cond) ∈ lw_t2 := t2_5 (List.mem_of_getElem? (i := 223) rfl) rfl
theorem tw_1250 : (.code yX12_node cX12_node 4 (some .int) : Cond) ∈ lw_t2 := t2_5 (List.mem_of_getElem? (i := 224) rfl) rfl
theorem tw_1251 : (.methodLink RX12 183 yX12_isNode : Cond) ∈ lw_t2 := t2_5 (List.mem_of_getElem? (i := 225) rfl) rfl
theorem tw_1253 : (.instanceMethod yX12_isNode : Cond) ∈ lw_t2 := t2_5 (List.mem_of_getElem? (i := 227) rfl) rfl
theorem tw_1254 : (.code yX12_isNode cX12_isNode 2 (some .boolean) : Cond) ∈ lw_t2 := t2_5 (List.mem_of_getElem? (i := 228) rfl) rfl
theorem tw_1255 : (.methodLink RX12 162 yX12_isIn : Cond) ∈ lw_t2 := t2_5 (List.mem_of_getElem? (i := 229) rfl) rfl
theorem tw_1256 : (.static yX12_isIn : Cond) ∈ lw_t2 := t2_5 (List.mem_of_getElem? (i := 230) rfl) rfl
theorem tw_1257 : (.code yX12_isIn cX12_isIn 2 (some .boolean) : Cond) ∈ lw_t2 := t2_5 (List.mem_of_getElem? (i := 231) rfl) rfl
theorem tw_1258 : (.methodLink RX12 187 yX12_within : Cond) ∈ lw_t2 := t2_5 (List.mem_of_getElem? (i := 232) rfl) rfl
theorem tw_1259 : (.static yX12_within : Cond) ∈ lw_t2 := t2_5 (List.mem_of_getElem? (i := 233) rfl) rfl
theorem tw_1260 : (.code yX12_within cX12_within 3 (some .int) : Cond) ∈ lw_t2 := t2_5 (List.mem_of_getElem? (i := 234) rfl) rfl
theorem tw_1261 : (.methodLink RL 26 yX12_boost : Cond) ∈ lw_t2 := t2_5 (List.mem_of_getElem? (i := 235) rfl) rfl
theorem tw_1262 : (.instanceMethod yX12_boost : Cond) ∈ lw_t2 := t2_5 (List.mem_of_getElem? (i := 236) rfl) rfl
theorem tw_1263 : (.selects RX12 yX12_boost yX12_boost : Cond) ∈ lw_t2 := t2_5 (List.mem_of_getElem? (i := 237) rfl) rfl
theorem tw_1264 : (.code yX12_boost cX12_boost 5 (some .int) : Cond) ∈ lw_t2 := t2_5 (List.mem_of_getElem? (i := 238) rfl) rfl
theorem tw_1265 : (.methodLink RL 30 yX12_weather : Cond) ∈ lw_t2 := t2_5 (List.mem_of_getElem? (i := 239) rfl) rfl
theorem tw_1266 : (.instanceMethod yX12_weather : Cond) ∈ lw_t2 := t2_6 (List.mem_of_getElem? (i := 0) rfl) rfl
theorem tw_1267 : (.selects RX12 yX12_weather yX12_weather : Cond) ∈ lw_t2 := t2_6 (List.mem_of_getElem? (i := 1) rfl) rfl
theorem tw_1268 : (.code yX12_weather cX12_weather 4 (some .int) : Cond) ∈ lw_t2 := t2_6 (List.mem_of_getElem? (i := 2) rfl) rfl
theorem tw_1269 : (.methodLink RL 35 yX12_cut : Cond) ∈ lw_t2 := t2_6 (List.mem_of_getElem? (i := 3) rfl) rfl
theorem tw_1270 : (.instanceMethod yX12_cut : Cond) ∈ lw_t2 := t2_6 (List.mem_of_getElem? (i := 4) rfl) rfl
theorem tw_1271 : (.selects RX12 yX12_cut yX12_cut : Cond) ∈ lw_t2 := t2_6 (List.mem_of_getElem? (i := 5) rfl) rfl
theorem tw_1272 : (.code yX12_cut cX12_cut 4 (some .int) : Cond) ∈ lw_t2 := t2_6 (List.mem_of_getElem? (i := 6) rfl) rfl
theorem tw_1273 : (.methodLink RL 39 yX12_loud : Cond) ∈ lw_t2 := t2_6 (List.mem_of_getElem? (i := 7) rfl) rfl
theorem tw_1274 : (.instanceMethod yX12_loud : Cond) ∈ lw_t2 := t2_6 (List.mem_of_getElem? (i := 8) rfl) rfl
theorem tw_1275 : (.selects RX12 yX12_loud yX12_loud : Cond) ∈ lw_t2 := t2_6 (List.mem_of_getElem? (i := 9) rfl) rfl
theorem tw_1276 : (.code yX12_loud cX12_loud 4 (some .int) : Cond) ∈ lw_t2 := t2_6 (List.mem_of_getElem? (i := 10) rfl) rfl
theorem tw_1277 : (.methodLink RX12 197 yX12_sounds : Cond) ∈ lw_t2 := t2_6 (List.mem_of_getElem? (i := 11) rfl) rfl
theorem tw_1279 : (.instanceMethod yX12_sounds : Cond) ∈ lw_t2 := t2_6 (List.mem_of_getElem? (i := 13) rfl) rfl
theorem tw_1280 : (.code yX12_sounds cX12_sounds 6 none : Cond) ∈ lw_t2 := t2_6 (List.mem_of_getElem? (i := 14) rfl) rfl
theorem tw_1281 : (.methodLink RX12 194 yX12_isCut : Cond) ∈ lw_t2 := t2_6 (List.mem_of_getElem? (i := 15) rfl) rfl
theorem tw_1283 : (.instanceMethod yX12_isCut : Cond) ∈ lw_t2 := t2_6 (List.mem_of_getElem? (i := 17) rfl) rfl
theorem tw_1284 : (.code yX12_isCut cX12_isCut 4 (some .boolean) : Cond) ∈ lw_t2 := t2_6 (List.mem_of_getElem? (i := 18) rfl) rfl
theorem tw_1285 : (.methodLink RL 44 yX12_home : Cond) ∈ lw_t2 := t2_6 (List.mem_of_getElem? (i := 19) rfl) rfl
theorem tw_1286 : (.instanceMethod yX12_home : Cond) ∈ lw_t2 := t2_6 (List.mem_of_getElem? (i := 20) rfl) rfl
theorem tw_1287 : (.selects RX12 yX12_home yX12_home : Cond) ∈ lw_t2 := t2_6 (List.mem_of_getElem? (i := 21) rfl) rfl
theorem tw_1288 : (.code yX12_home cX12_home 5 (some .int) : Cond) ∈ lw_t2 := t2_6 (List.mem_of_getElem? (i := 22) rfl) rfl
theorem tw_1289 : (.constant RX12 201 (16777215) : Cond) ∈ lw_t2 := t2_6 (List.mem_of_getElem? (i := 23) rfl) rfl
theorem tw_1290 : (.methodLink RL 48 yX12_least : Cond) ∈ lw_t2 := t2_6 (List.mem_of_getElem? (i := 24) rfl) rfl
theorem tw_1291 : (.instanceMethod yX12_least : Cond) ∈ lw_t2 := t2_6 (List.mem_of_getElem? (i := 25) rfl) rfl
theorem tw_1292 : (.selects RX12 yX12_least yX12_least : Cond) ∈ lw_t2 := t2_6 (List.mem_of_getElem? (i := 26) rfl) rfl
theorem tw_1293 : (.code yX12_least cX12_least 4 (some .int) : Cond) ∈ lw_t2 := t2_6 (List.mem_of_getElem? (i := 27) rfl) rfl
theorem tw_1294 : (.methodLink RL 52 yX12_hears : Cond) ∈ lw_t2 := t2_6 (List.mem_of_getElem? (i := 28) rfl) rfl
theorem tw_1295 : (.instanceMethod yX12_hears : Cond) ∈ lw_t2 := t2_6 (List.mem_of_getElem? (i := 29) rfl) rfl
theorem tw_1296 : (.selects RX12 yX12_hears yX12_hears : Cond) ∈ lw_t2 := t2_6 (List.mem_of_getElem? (i := 30) rfl) rfl
theorem tw_1297 : (.code yX12_hears cX12_hears 4 (some .int) : Cond) ∈ lw_t2 := t2_6 (List.mem_of_getElem? (i := 31) rfl) rfl
theorem tw_1298 : (.methodLink RX12 202 yX12_isHome : Cond) ∈ lw_t2 := t2_6 (List.mem_of_getElem? (i := 32) rfl) rfl
theorem tw_1300 : (.instanceMethod yX12_isHome : Cond) ∈ lw_t2 := t2_6 (List.mem_of_getElem? (i := 34) rfl) rfl
theorem tw_1301 : (.code yX12_isHome cX12_isHome 2 (some .boolean) : Cond) ∈ lw_t2 := t2_6 (List.mem_of_getElem? (i := 35) rfl) rfl
theorem tw_1302 : (.methodLink RX12 205 yX12_hearsNow : Cond) ∈ lw_t2 := t2_6 (List.mem_of_getElem? (i := 36) rfl) rfl
theorem tw_1304 : (.instanceMethod yX12_hearsNow : Cond) ∈ lw_t2 := t2_6 (List.mem_of_getElem? (i := 38) rfl) rfl
theorem tw_1305 : (.code yX12_hearsNow cX12_hearsNow 2 (some .boolean) : Cond) ∈ lw_t2 := t2_6 (List.mem_of_getElem? (i := 39) rfl) rfl
theorem tw_1306 : (.methodLink RL 56 yX12_reader : Cond) ∈ lw_t2 := t2_6 (List.mem_of_getElem? (i := 40) rfl) rfl
theorem tw_1307 : (.instanceMethod yX12_reader : Cond) ∈ lw_t2 := t2_6 (List.mem_of_getElem? (i := 41) rfl) rfl
theorem tw_1308 : (.selects RX12 yX12_reader yX12_reader : Cond) ∈ lw_t2 := t2_6 (List.mem_of_getElem? (i := 42) rfl) rfl
theorem tw_1309 : (.code yX12_reader cX12_reader 3 (some .int) : Cond) ∈ lw_t2 := t2_6 (List.mem_of_getElem? (i := 43) rfl) rfl
theorem tw_1310 : (.methodLink RL 60 yX12_rests : Cond) ∈ lw_t2 := t2_6 (List.mem_of_getElem? (i := 44) rfl) rfl
theorem tw_1311 : (.instanceMethod yX12_rests : Cond) ∈ lw_t2 := t2_6 (List.mem_of_getElem? (i := 45) rfl) rfl
theorem tw_1312 : (.selects RX12 yX12_rests yX12_rests : Cond) ∈ lw_t2 := t2_6 (List.mem_of_getElem? (i := 46) rfl) rfl
theorem tw_1313 : (.code yX12_rests cX12_rests 4 (some .int) : Cond) ∈ lw_t2 := t2_6 (List.mem_of_getElem? (i := 47) rfl) rfl
theorem tw_1314 : (.methodLink RL 64 yX12_mayRead : Cond) ∈ lw_t2 := t2_6 (List.mem_of_getElem? (i := 48) rfl) rfl
theorem tw_1315 : (.instanceMethod yX12_mayRead : Cond) ∈ lw_t2 := t2_6 (List.mem_of_getElem? (i := 49) rfl) rfl
theorem tw_1316 : (.selects RX12 yX12_mayRead yX12_mayRead : Cond) ∈ lw_t2 := t2_6 (List.mem_of_getElem? (i := 50) rfl) rfl
theorem tw_1317 : (.code yX12_mayRead cX12_mayRead 2 (some .int) : Cond) ∈ lw_t2 := t2_6 (List.mem_of_getElem? (i := 51) rfl) rfl
theorem tw_1318 : (.methodLink RX12 211 yX12_may : Cond) ∈ lw_t2 := t2_6 (List.mem_of_getElem? (i := 52) rfl) rfl
theorem tw_1320 : (.instanceMethod yX12_may : Cond) ∈ lw_t2 := t2_6 (List.mem_of_getElem? (i := 54) rfl) rfl
theorem tw_1321 : (.code yX12_may cX12_may 2 (some .boolean) : Cond) ∈ lw_t2 := t2_6 (List.mem_of_getElem? (i := 55) rfl) rfl
theorem tw_1322 : (.methodLink RL 68 yX12_say : Cond) ∈ lw_t2 := t2_6 (List.mem_of_getElem? (i := 56) rfl) rfl
theorem tw_1323 : (.instanceMethod yX12_say : Cond) ∈ lw_t2 := t2_6 (List.mem_of_getElem? (i := 57) rfl) rfl
theorem tw_1324 : (.selects RX12 yX12_say yX12_say : Cond) ∈ lw_t2 := t2_6 (List.mem_of_getElem? (i := 58) rfl) rfl
theorem tw_1325 : (.code yX12_say cX12_say 5 (some .int) : Cond) ∈ lw_t2 := t2_6 (List.mem_of_getElem? (i := 59) rfl) rfl
theorem tw_1326 : (.methodLink RX12 217 yX12_isPast : Cond) ∈ lw_t2 := t2_6 (List.mem_of_getElem? (i := 60) rfl) rfl
theorem tw_1328 : (.instanceMethod yX12_isPast : Cond) ∈ lw_t2 := t2_6 (List.mem_of_getElem? (i := 62) rfl) rfl
theorem tw_1329 : (.code yX12_isPast cX12_isPast 2 (some .boolean) : Cond) ∈ lw_t2 := t2_6 (List.mem_of_getElem? (i := 63) rfl) rfl
theorem tw_1330 : (.methodLink RX12 223 yX12_bare : Cond) ∈ lw_t2 := t2_6 (List.mem_of_getElem? (i := 64) rfl) rfl
theorem tw_1332 : (.instanceMethod yX12_bare : Cond) ∈ lw_t2 := t2_6 (List.mem_of_getElem? (i := 66) rfl) rfl
theorem tw_1333 : (.code yX12_bare cX12_bare 2 none : Cond) ∈ lw_t2 := t2_6 (List.mem_of_getElem? (i := 67) rfl) rfl
theorem tw_1334 : (.methodLink RX12 226 yX12_worth : Cond) ∈ lw_t2 := t2_6 (List.mem_of_getElem? (i := 68) rfl) rfl
theorem tw_1336 : (.instanceMethod yX12_worth : Cond) ∈ lw_t2 := t2_6 (List.mem_of_getElem? (i := 70) rfl) rfl
theorem tw_1337 : (.code yX12_worth cX12_worth 5 (some .int) : Cond) ∈ lw_t2 := t2_6 (List.mem_of_getElem? (i := 71) rfl) rfl
theorem tw_1338 : (.methodLink RX12 309 yX12_inForce : Cond) ∈ lw_t2 := t2_6 (List.mem_of_getElem? (i := 72) rfl) rfl
theorem tw_1340 : (.instanceMethod yX12_inForce : Cond) ∈ lw_t2 := t2_6 (List.mem_of_getElem? (i := 74) rfl) rfl
theorem tw_1341 : (.code yX12_inForce cX12_inForce 5 (some .int) : Cond) ∈ lw_t2 := t2_6 (List.mem_of_getElem? (i := 75) rfl) rfl
theorem tw_1342 : (.methodLink RX12 306 yX12_goesThrough : Cond) ∈ lw_t2 := t2_6 (List.mem_of_getElem? (i := 76) rfl) rfl
theorem tw_1344 : (.instanceMethod yX12_goesThrough : Cond) ∈ lw_t2 := t2_6 (List.mem_of_getElem? (i := 78) rfl) rfl
theorem tw_1345 : (.code yX12_goesThrough cX12_goesThrough 3 (some .int) : Cond) ∈ lw_t2 := t2_6 (List.mem_of_getElem? (i := 79) rfl) rfl
theorem tw_1346 : (.methodLink RX12 297 yX12_sum : Cond) ∈ lw_t2 := t2_6 (List.mem_of_getElem? (i := 80) rfl) rfl
theorem tw_1348 : (.instanceMethod yX12_sum : Cond) ∈ lw_t2 := t2_6 (List.mem_of_getElem? (i := 82) rfl) rfl
theorem tw_1349 : (.code yX12_sum cX12_sum 4 (some .int) : Cond) ∈ lw_t2 := t2_6 (List.mem_of_getElem? (i := 83) rfl) rfl
theorem tw_1350 : (.methodLink RX12 278 yX12_term : Cond) ∈ lw_t2 := t2_6 (List.mem_of_getElem? (i := 84) rfl) rfl
theorem tw_1352 : (.instanceMethod yX12_term : Cond) ∈ lw_t2 := t2_6 (List.mem_of_getElem? (i := 86) rfl) rfl
theorem tw_1353 : (.code yX12_term cX12_term 4 (some .int) : Cond) ∈ lw_t2 := t2_6 (List.mem_of_getElem? (i := 87) rfl) rfl
theorem tw_1354 : (.methodLink RX12 285 yX12_unit : Cond) ∈ lw_t2 := t2_6 (List.mem_of_getElem? (i := 88) rfl) rfl
theorem tw_1356 : (.instanceMethod yX12_unit : Cond) ∈ lw_t2 := t2_6 (List.mem_of_getElem? (i := 90) rfl) rfl
theorem tw_1357 : (.code yX12_unit cX12_unit 5 (some .int) : Cond) ∈ lw_t2 := t2_6 (List.mem_of_getElem? (i := 91) rfl) rfl
theorem tw_1358 : (.methodLink RX12 274 yX12_sign : Cond) ∈ lw_t2 := t2_6 (List.mem_of_getElem? (i := 92) rfl) rfl
theorem tw_1360 : (.instanceMethod yX12_sign : Cond) ∈ lw_t2 := t2_6 (List.mem_of_getElem? (i := 94) rfl) rfl
theorem tw_1361 : (.code yX12_sign cX12_sign 1 (some .int) : Cond) ∈ lw_t2 := t2_6 (List.mem_of_getElem? (i := 95) rfl) rfl
theorem tw_1362 : (.methodLink RX12 288 yX12_isLetter : Cond) ∈ lw_t2 := t2_6 (List.mem_of_getElem? (i := 96) rfl) rfl
theorem tw_1363 : (.static yX12_isLetter : Cond) ∈ lw_t2 := t2_6 (List.mem_of_getElem? (i := 97) rfl) rfl
theorem tw_1364 : (.code yX12_isLetter cX12_isLetter 1 (some .boolean) : Cond) ∈ lw_t2 := t2_6 (List.mem_of_getElem? (i := 98) rfl) rfl
theorem tw_1365 : (.methodLink RX12 294 yX12_breaksOff : Cond) ∈ lw_t2 := t2_6 (List.mem_of_getElem? (i := 99) rfl) rfl
theorem tw_1367 : (.instanceMethod yX12_breaksOff : Cond) ∈ lw_t2 := t2_6 (List.mem_of_getElem? (i := 101) rfl) rfl
theorem tw_1368 : (.code yX12_breaksOff cX12_breaksOff 1 (some .int) : Cond) ∈ lw_t2 := t2_6 (List.mem_of_getElem? (i := 102) rfl) rfl
theorem tw_1369 : (.methodLink RX12 300 yX12_takes : Cond) ∈ lw_t2 := t2_6 (List.mem_of_getElem? (i := 103) rfl) rfl
theorem tw_1371 : (.instanceMethod yX12_takes : Cond) ∈ lw_t2 := t2_6 (List.mem_of_getElem? (i := 105) rfl) rfl
theorem tw_1372 : (.code yX12_takes cX12_takes 2 (some .boolean) : Cond) ∈ lw_t2 := t2_6 (List.mem_of_getElem? (i := 106) rfl) rfl
theorem tw_1373 : (.methodLink RX12 281 yX12_held : Cond) ∈ lw_t2 := t2_6 (List.mem_of_getElem? (i := 107) rfl) rfl
theorem tw_1374 : (.static yX12_held : Cond) ∈ lw_t2 := t2_6 (List.mem_of_getElem? (i := 108) rfl) rfl
theorem tw_1375 : (.code yX12_held cX12_held 2 (some .int) : Cond) ∈ lw_t2 := t2_6 (List.mem_of_getElem? (i := 109) rfl) rfl
theorem tw_1376 : (.constantLong RX12 266 (1000000000) : Cond) ∈ lw_t2 := t2_6 (List.mem_of_getElem? (i := 110) rfl) rfl
theorem tw_1377 : (.constantLong RX12 268 (-1000000000) : Cond) ∈ lw_t2 := t2_6 (List.mem_of_getElem? (i := 111) rfl) rfl
theorem tw_1378 : (.methodLink RX12 229 yX12_reads : Cond) ∈ lw_t2 := t2_6 (List.mem_of_getElem? (i := 112) rfl) rfl
theorem tw_1380 : (.instanceMethod yX12_reads : Cond) ∈ lw_t2 := t2_6 (List.mem_of_getElem? (i := 114) rfl) rfl
theorem tw_1381 : (.code yX12_reads cX12_reads 4 (some .int) : Cond) ∈ lw_t2 := t2_6 (List.mem_of_getElem? (i := 115) rfl) rfl
theorem tw_1382 : (.methodLink RL 72 yX12_stage : Cond) ∈ lw_t2 := t2_6 (List.mem_of_getElem? (i := 116) rfl) rfl
theorem tw_1383 : (.instanceMethod yX12_stage : Cond) ∈ lw_t2 := t2_6 (List.mem_of_getElem? (i := 117) rfl) rfl
theorem tw_1384 : (.selects RX12 yX12_stage yX12_stage : Cond) ∈ lw_t2 := t2_6 (List.mem_of_getElem? (i := 118) rfl) rfl
theorem tw_1385 : (.code yX12_stage cX12_stage 3 (some .int) : Cond) ∈ lw_t2 := t2_6 (List.mem_of_getElem? (i := 119) rfl) rfl
theorem tw_1386 : (.methodLink RL 76 yX12_minuteOf : Cond) ∈ lw_t2 := t2_6 (List.mem_of_getElem? (i := 120) rfl) rfl
theorem tw_1387 : (.instanceMethod yX12_minuteOf : Cond) ∈ lw_t2 := t2_6 (List.mem_of_getElem? (i := 121) rfl) rfl
theorem tw_1388 : (.selects RX12 yX12_minuteOf yX12_minuteOf : Cond) ∈ lw_t2 := t2_6 (List.mem_of_getElem? (i := 122) rfl) rfl
theorem tw_1389 : (.code yX12_minuteOf cX12_minuteOf 3 (some .int) : Cond) ∈ lw_t2 := t2_6 (List.mem_of_getElem? (i := 123) rfl) rfl
theorem tw_1390 : (.methodLink RX12 246 yX12_counts : Cond) ∈ lw_t2 := t2_6 (List.mem_of_getElem? (i := 124) rfl) rfl
theorem tw_1392 : (.instanceMethod yX12_counts : Cond) ∈ lw_t2 := t2_6 (List.mem_of_getElem? (i := 126) rfl) rfl
theorem tw_1393 : (.code yX12_counts cX12_counts 2 none : Cond) ∈ lw_t2 := t2_6 (List.mem_of_getElem? (i := 127) rfl) rfl
theorem tw_1394 : (.methodLink RX12 238 yX12_countsAnew : Cond) ∈ lw_t2 := t2_6 (List.mem_of_getElem? (i := 128) rfl) rfl
theorem tw_1396 : (.instanceMethod yX12_countsAnew : Cond) ∈ lw_t2 := t2_6 (List.mem_of_getElem? (i := 130) rfl) rfl
theorem tw_1397 : (.code yX12_countsAnew cX12_countsAnew 4 none : Cond) ∈ lw_t2 := t2_6 (List.mem_of_getElem? (i := 131) rfl) rfl
theorem tw_1398 : (.methodLink RX12 242 yX12_listens : Cond) ∈ lw_t2 := t2_6 (List.mem_of_getElem? (i := 132) rfl) rfl
theorem tw_1400 : (.instanceMethod yX12_listens : Cond) ∈ lw_t2 := t2_6 (List.mem_of_getElem? (i := 134) rfl) rfl
theorem tw_1401 : (.code yX12_listens cX12_listens 4 (some .int) : Cond) ∈ lw_t2 := t2_6 (List.mem_of_getElem? (i := 135) rfl) rfl
theorem tw_1402 : (.methodLink RL 80 yX12_heard : Cond) ∈ lw_t2 := t2_6 (List.mem_of_getElem? (i := 136) rfl) rfl
theorem tw_1403 : (.instanceMethod yX12_heard : Cond) ∈ lw_t2 := t2_6 (List.mem_of_getElem? (i := 137) rfl) rfl
theorem tw_1404 : (.selects RX12 yX12_heard yX12_heard : Cond) ∈ lw_t2 := t2_6 (List.mem_of_getElem? (i := 138) rfl) rfl
theorem tw_1405 : (.code yX12_heard cX12_heard 3 (some .int) : Cond) ∈ lw_t2 := t2_6 (List.mem_of_getElem? (i := 139) rfl) rfl
theorem tw_1406 : (.methodLink RX12 249 yX12_heardBy : Cond) ∈ lw_t2 := t2_6 (List.mem_of_getElem? (i := 140) rfl) rfl
theorem tw_1408 : (.instanceMethod yX12_heardBy : Cond) ∈ lw_t2 := t2_6 (List.mem_of_getElem? (i := 142) rfl) rfl
theorem tw_1409 : (.code yX12_heardBy cX12_heardBy 3 (some .int) : Cond) ∈ lw_t2 := t2_6 (List.mem_of_getElem? (i := 143) rfl) rfl
theorem tw_1410 : (.methodLink RL 87 yX12_feed : Cond) ∈ lw_t2 := t2_6 (List.mem_of_getElem? (i := 144) rfl) rfl
theorem tw_1411 : (.instanceMethod yX12_feed : Cond) ∈ lw_t2 := t2_6 (List.mem_of_getElem? (i := 145) rfl) rfl
theorem tw_1412 : (.selects RX12 yX12_feed yX12_feed : Cond) ∈ lw_t2 := t2_6 (List.mem_of_getElem? (i := 146) rfl) rfl
theorem tw_1413 : (.code yX12_feed cX12_feed 5 (some .int) : Cond) ∈ lw_t2 := t2_6 (List.mem_of_getElem? (i := 147) rfl) rfl
theorem tw_1414 : (.constantLong RX12 255 (255) : Cond) ∈ lw_t2 := t2_6 (List.mem_of_getElem? (i := 148) rfl) rfl
theorem tw_1415 : (.methodLink RL 91 yX12_term_ : Cond) ∈ lw_t2 := t2_6 (List.mem_of_getElem? (i := 149) rfl) rfl
theorem tw_1416 : (.instanceMethod yX12_term_ : Cond) ∈ lw_t2 := t2_6 (List.mem_of_getElem? (i := 150) rfl) rfl
theorem tw_1417 : (.selects RX12 yX12_term_ yX12_term_ : Cond) ∈ lw_t2 := t2_6 (List.mem_of_getElem? (i := 151) rfl) rfl
theorem tw_1418 : (.code yX12_term_ cX12_term_ 8 (some .int) : Cond) ∈ lw_t2 := t2_6 (List.mem_of_getElem? (i := 152) rfl) rfl
theorem tw_1419 : (.methodLink RL 95 yX12_worth_ : Cond) ∈ lw_t2 := t2_6 (List.mem_of_getElem? (i := 153) rfl) rfl
theorem tw_1420 : (.instanceMethod yX12_worth_ : Cond) ∈ lw_t2 := t2_6 (List.mem_of_getElem? (i := 154) rfl) rfl
theorem tw_1421 : (.selects RX12 yX12_worth_ yX12_worth_ : Cond) ∈ lw_t2 := t2_6 (List.mem_of_getElem? (i := 155) rfl) rfl
theorem tw_1422 : (.code yX12_worth_ cX12_worth_ 3 (some .int) : Cond) ∈ lw_t2 := t2_6 (List.mem_of_getElem? (i := 156) rfl) rfl
theorem tw_1423 : (.constant RX12 315 (1000000000) : Cond) ∈ lw_t2 := t2_6 (List.mem_of_getElem? (i := 157) rfl) rfl
theorem tw_1424 : (.methodLink RX12 316 yX12_worthOf : Cond) ∈ lw_t2 := t2_6 (List.mem_of_getElem? (i := 158) rfl) rfl
theorem tw_1426 : (.instanceMethod yX12_worthOf : Cond) ∈ lw_t2 := t2_6 (List.mem_of_getElem? (i := 160) rfl) rfl
theorem tw_1427 : (.code yX12_worthOf cX12_worthOf 3 (some .int) : Cond) ∈ lw_t2 := t2_6 (List.mem_of_getElem? (i := 161) rfl) rfl
theorem tw_1428 : (.methodLink RX12 312 yX12_puts : Cond) ∈ lw_t2 := t2_6 (List.mem_of_getElem? (i := 162) rfl) rfl
theorem tw_1430 : (.instanceMethod yX12_puts : Cond) ∈ lw_t2 := t2_6 (List.mem_of_getElem? (i := 164) rfl) rfl
theorem tw_1431 : (.code yX12_puts cX12_puts 2 none : Cond) ∈ lw_t2 := t2_6 (List.mem_of_getElem? (i := 165) rfl) rfl
theorem tw_1432 : (.methodLink RL 100 yX12_account : Cond) ∈ lw_t2 := t2_6 (List.mem_of_getElem? (i := 166) rfl) rfl
theorem tw_1433 : (.instanceMethod yX12_account : Cond) ∈ lw_t2 := t2_6 (List.mem_of_getElem? (i := 167) rfl) rfl
theorem tw_1434 : (.selects RX12 yX12_account yX12_account : Cond) ∈ lw_t2 := t2_6 (List.mem_of_getElem? (i := 168) rfl) rfl
theorem tw_1435 : (.code yX12_account cX12_account 7 (some .long) : Cond) ∈ lw_t2 := t2_6 (List.mem_of_getElem? (i := 169) rfl) rfl
theorem tw_1436 : (.constantLong RX12 319 (4000000000000000000) : Cond) ∈ lw_t2 := t2_6 (List.mem_of_getElem? (i := 170) rfl) rfl
theorem tw_1437 : (.methodLink RX12 321 yX12_findsForce : Cond) ∈ lw_t2 := t2_6 (List.mem_of_getElem? (i := 171) rfl) rfl
theorem tw_1439 : (.instanceMethod yX12_findsForce : Cond) ∈ lw_t2 := t2_6 (List.mem_of_getElem? (i := 173) rfl) rfl
theorem tw_1440 : (.code yX12_findsForce cX12_findsForce 4 (some .int) : Cond) ∈ lw_t2 := t2_6 (List.mem_of_getElem? (i := 174) rfl) rfl
theorem tw_1441 : (.methodLink RX12 324 yX12_asBefore : Cond) ∈ lw_t2 := t2_6 (List.mem_of_getElem? (i := 175) rfl) rfl
theorem tw_1443 : (.instanceMethod yX12_asBefore : Cond) ∈ lw_t2 := t2_6 (List.mem_of_getElem? (i := 177) rfl) rfl
theorem tw_1444 : (.code yX12_asBefore cX12_asBefore 5 (some .int) : Cond) ∈ lw_t2 := t2_6 (List.mem_of_getElem? (i := 178) rfl) rfl
theorem tw_1445 : (.methodLink RX12 327 yX12_has : Cond) ∈ lw_t2 := t2_6 (List.mem_of_getElem? (i := 179) rfl) rfl
theorem tw_1447 : (.instanceMethod yX12_has : Cond) ∈ lw_t2 := t2_6 (List.mem_of_getElem? (i := 181) rfl) rfl
theorem tw_1448 : (.code yX12_has cX12_has 4 (some .boolean) : Cond) ∈ lw_t2 := t2_6 (List.mem_of_getElem? (i := 182) rfl) rfl
theorem tw_1449 : (.methodLink RX12 330 yX12_letterOf : Cond) ∈ lw_t2 := t2_6 (List.mem_of_getElem? (i := 183) rfl) rfl
theorem tw_1450 : (.static yX12_letterOf : Cond) ∈ lw_t2 := t2_6 (List.mem_of_getElem? (i := 184) rfl) rfl
theorem tw_1451 : (.code yX12_letterOf cX12_letterOf 1 (some .int) : Cond) ∈ lw_t2 := t2_6 (List.mem_of_getElem? (i := 185) rfl) rfl
theorem tw_1452 : (.methodLink RL 105 yX12_complain : Cond) ∈ lw_t2 := t2_6 (List.mem_of_getElem? (i := 186) rfl) rfl
theorem tw_1453 : (.instanceMethod yX12_complain : Cond) ∈ lw_t2 := t2_6 (List.mem_of_getElem? (i := 187) rfl) rfl
theorem tw_1454 : (.selects RX12 yX12_complain yX12_complain : Cond) ∈ lw_t2 := t2_6 (List.mem_of_getElem? (i := 188) rfl) rfl
theorem tw_1455 : (.code yX12_complain cX12_complain 4 (some .int) : Cond) ∈ lw_t2 := t2_6 (List.mem_of_getElem? (i := 189) rfl) rfl
theorem tw_1456 : (.methodLink RL 109 yX12_breaks : Cond) ∈ lw_t2 := t2_6 (List.mem_of_getElem? (i := 190) rfl) rfl
theorem tw_1457 : (.instanceMethod yX12_breaks : Cond) ∈ lw_t2 := t2_6 (List.mem_of_getElem? (i := 191) rfl) rfl
theorem tw_1458 : (.selects RX12 yX12_breaks yX12_breaks : Cond) ∈ lw_t2 := t2_6 (List.mem_of_getElem? (i := 192) rfl) rfl
theorem tw_1459 : (.code yX12_breaks cX12_breaks 5 (some .int) : Cond) ∈ lw_t2 := t2_6 (List.mem_of_getElem? (i := 193) rfl) rfl
theorem tw_1460 : (.methodLink RX12 333 yX12_bits : Cond) ∈ lw_t2 := t2_6 (List.mem_of_getElem? (i := 194) rfl) rfl
theorem tw_1461 : (.static yX12_bits : Cond) ∈ lw_t2 := t2_6 (List.mem_of_getElem? (i := 195) rfl) rfl
theorem tw_1462 : (.code yX12_bits cX12_bits 3 (some .int) : Cond) ∈ lw_t2 := t2_6 (List.mem_of_getElem? (i := 196) rfl) rfl
theorem tw_1463 : (.methodLink RX12 336 yX12_explains : Cond) ∈ lw_t2 := t2_6 (List.mem_of_getElem? (i := 197) rfl) rfl
theorem tw_1465 : (.instanceMethod yX12_explains : Cond) ∈ lw_t2 := t2_6 (List.mem_of_getElem? (i := 199) rfl) rfl
theorem tw_1466 : (.code yX12_explains cX12_explains 5 (some .boolean) : Cond) ∈ lw_t2 := t2_6 (List.mem_of_getElem? (i := 200) rfl) rfl
theorem tw_1467 : (.methodLink RL 113 yX12_could : Cond) ∈ lw_t2 := t2_6 (List.mem_of_getElem? (i := 201) rfl) rfl
theorem tw_1468 : (.instanceMethod yX12_could : Cond) ∈ lw_t2 := t2_6 (List.mem_of_getElem? (i := 202) rfl) rfl
theorem tw_1469 : (.selects RX12 yX12_could yX12_could : Cond) ∈ lw_t2 := t2_6 (List.mem_of_getElem? (i := 203) rfl) rfl
theorem tw_1470 : (.code yX12_could cX12_could 4 (some .int) : Cond) ∈ lw_t2 := t2_6 (List.mem_of_getElem? (i := 204) rfl) rfl
theorem tw_1471 : (.methodLink RL 117 yX12_boosts : Cond) ∈ lw_t2 := t2_6 (List.mem_of_getElem? (i := 205) rfl) rfl
theorem tw_1472 : (.instanceMethod yX12_boosts : Cond) ∈ lw_t2 := t2_6 (List.mem_of_getElem? (i := 206) rfl) rfl
theorem tw_1473 : (.selects RX12 yX12_boosts yX12_boosts : Cond) ∈ lw_t2 := t2_6 (List.mem_of_getElem? (i := 207) rfl) rfl
theorem tw_1474 : (.code yX12_boosts cX12_boosts 7 (some .int) : Cond) ∈ lw_t2 := t2_6 (List.mem_of_getElem? (i := 208) rfl) rfl
theorem tw_1475 : (.methodLink RL 121 yX12_covers : Cond) ∈ lw_t2 := t2_6 (List.mem_of_getElem? (i := 209) rfl) rfl
theorem tw_1476 : (.instanceMethod yX12_covers : Cond) ∈ lw_t2 := t2_6 (List.mem_of_getElem? (i := 210) rfl) rfl
theorem tw_1477 : (.selects RX12 yX12_covers yX12_covers : Cond) ∈ lw_t2 := t2_6 (List.mem_of_getElem? (i := 211) rfl) rfl
theorem tw_1478 : (.code yX12_covers cX12_covers 5 (some .int) : Cond) ∈ lw_t2 := t2_6 (List.mem_of_getElem? (i := 212) rfl) rfl
theorem tw_1479 : (.methodLink RX12 345 yX12_wrongHours : Cond) ∈ lw_t2 := t2_6 (List.mem_of_getElem? (i := 213) rfl) rfl
theorem tw_1481 : (.instanceMethod yX12_wrongHours : Cond) ∈ lw_t2 := t2_6 (List.mem_of_getElem? (i := 215) rfl) rfl
theorem tw_1482 : (.code yX12_wrongHours cX12_wrongHours 4 (some .int) : Cond) ∈ lw_t2 := t2_6 (List.mem_of_getElem? (i := 216) rfl) rfl
theorem tw_1483 : (.methodLink RX12 348 yX12_asks : Cond) ∈ lw_t2 := t2_6 (List.mem_of_getElem? (i := 217) rfl) rfl
theorem tw_1485 : (.instanceMethod yX12_asks : Cond) ∈ lw_t2 := t2_6 (List.mem_of_getElem? (i := 219) rfl) rfl
theorem tw_1486 : (.code yX12_asks cX12_asks 4 none : Cond) ∈ lw_t2 := t2_6 (List.mem_of_getElem? (i := 220) rfl) rfl
theorem tw_1487 : (.methodLink RX12 352 yX12_coversBy : Cond) ∈ lw_t2 := t2_6 (List.mem_of_getElem? (i := 221) rfl) rfl
theorem tw_1489 : (.instanceMethod yX12_coversBy : Cond) ∈ lw_t2 := t2_6 (List.mem_of_getElem? (i := 223) rfl) rfl
theorem tw_1490 : (.code yX12_coversBy cX12_coversBy 4 (some .int) : Cond) ∈ lw_t2 := t2_6 (List.mem_of_getElem? (i := 224) rfl) rfl
theorem tw_1491 : (.methodLink RL 125 yX12_rights : Cond) ∈ lw_t2 := t2_6 (List.mem_of_getElem? (i := 225) rfl) rfl
theorem tw_1492 : (.instanceMethod yX12_rights : Cond) ∈ lw_t2 := t2_6 (List.mem_of_getElem? (i := 226) rfl) rfl
theorem tw_1493 : (.selects RX12 yX12_rights yX12_rights : Cond) ∈ lw_t2 := t2_6 (List.mem_of_getElem? (i := 227) rfl) rfl
theorem tw_1494 : (.code yX12_rights cX12_rights 9 (some .int) : Cond) ∈ lw_t2 := t2_6 (List.mem_of_getElem? (i := 228) rfl) rfl
theorem tw_1495 : (.methodLink RX12 355 yX12_counting : Cond) ∈ lw_t2 := t2_6 (List.mem_of_getElem? (i := 229) rfl) rfl
theorem tw_1497 : (.instanceMethod yX12_counting : Cond) ∈ lw_t2 := t2_6 (List.mem_of_getElem? (i := 231) rfl) rfl
theorem tw_1498 : (.code yX12_counting cX12_counting 2 none : Cond) ∈ lw_t2 := t2_6 (List.mem_of_getElem? (i := 232) rfl) rfl
theorem tw_1499 : (.methodLink RX12 358 yX12_isEnough : Cond) ∈ lw_t2 := t2_6 (List.mem_of_getElem? (i := 233) rfl) rfl
theorem tw_1501 : (.instanceMethod yX12_isEnough : Cond) ∈ lw_t2 := t2_6 (List.mem_of_getElem? (i := 235) rfl) rfl
theorem tw_1502 : (.code yX12_isEnough cX12_isEnough 5 (some .boolean) : Cond) ∈ lw_t2 := t2_6 (List.mem_of_getElem? (i := 236) rfl) rfl
theorem tw_1503 : (.methodLink RL 130 yX12_news : Cond) ∈ lw_t2 := t2_6 (List.mem_of_getElem? (i := 237) rfl) rfl
theorem tw_1504 : (.instanceMethod yX12_news : Cond) ∈ lw_t2 := t2_6 (List.mem_of_getElem? (i := 238) rfl) rfl
theorem tw_1505 : (.selects RX12 yX12_news yX12_news : Cond) ∈ lw_t2 := t2_6 (List.mem_of_getElem? (i := 239) rfl) rfl
theorem tw_1506 : (.code yX12_news cX12_news 2 (some .int) : Cond) ∈ lw_t2 := t2_7 (List.mem_of_getElem? (i := 0) rfl) rfl
theorem tw_1507 : (.methodLink RL 134 yX12_printed : Cond) ∈ lw_t2 := t2_7 (List.mem_of_getElem? (i := 1) rfl) rfl
theorem tw_1508 : (.instanceMethod yX12_printed : Cond) ∈ lw_t2 := t2_7 (List.mem_of_getElem? (i := 2) rfl) rfl
theorem tw_1509 : (.selects RX12 yX12_printed yX12_printed : Cond) ∈ lw_t2 := t2_7 (List.mem_of_getElem? (i := 3) rfl) rfl
theorem tw_1510 : (.code yX12_printed cX12_printed 4 (some .int) : Cond) ∈ lw_t2 := t2_7 (List.mem_of_getElem? (i := 4) rfl) rfl
theorem tw_1511 : (.methodLink RL 138 yX12_lag : Cond) ∈ lw_t2 := t2_7 (List.mem_of_getElem? (i := 5) rfl) rfl
theorem tw_1512 : (.instanceMethod yX12_lag : Cond) ∈ lw_t2 := t2_7 (List.mem_of_getElem? (i := 6) rfl) rfl
theorem tw_1513 : (.selects RX12 yX12_lag yX12_lag : Cond) ∈ lw_t2 := t2_7 (List.mem_of_getElem? (i := 7) rfl) rfl
theorem tw_1514 : (.code yX12_lag cX12_lag 2 (some .int) : Cond) ∈ lw_t2 := t2_7 (List.mem_of_getElem? (i := 8) rfl) rfl
theorem tw_1515 : (.methodLink RL 142 yX12_fresh : Cond) ∈ lw_t2 := t2_7 (List.mem_of_getElem? (i := 9) rfl) rfl
theorem tw_1516 : (.instanceMethod yX12_fresh : Cond) ∈ lw_t2 := t2_7 (List.mem_of_getElem? (i := 10) rfl) rfl
theorem tw_1517 : (.selects RX12 yX12_fresh yX12_fresh : Cond) ∈ lw_t2 := t2_7 (List.mem_of_getElem? (i := 11) rfl) rfl
theorem tw_1518 : (.code yX12_fresh cX12_fresh 3 (some .int) : Cond) ∈ lw_t2 := t2_7 (List.mem_of_getElem? (i := 12) rfl) rfl
theorem tw_1519 : (.methodLink RL 146 yX12_advert : Cond) ∈ lw_t2 := t2_7 (List.mem_of_getElem? (i := 13) rfl) rfl
theorem tw_1520 : (.instanceMethod yX12_advert : Cond) ∈ lw_t2 := t2_7 (List.mem_of_getElem? (i := 14) rfl) rfl
theorem tw_1521 : (.selects RX12 yX12_advert yX12_advert : Cond) ∈ lw_t2 := t2_7 (List.mem_of_getElem? (i := 15) rfl) rfl
theorem tw_1522 : (.code yX12_advert cX12_advert 3 (some .int) : Cond) ∈ lw_t2 := t2_7 (List.mem_of_getElem? (i := 16) rfl) rfl
theorem tw_1523 : (.methodLink RL 150 yX12_sold : Cond) ∈ lw_t2 := t2_7 (List.mem_of_getElem? (i := 17) rfl) rfl
theorem tw_1524 : (.instanceMethod yX12_sold : Cond) ∈ lw_t2 := t2_7 (List.mem_of_getElem? (i := 18) rfl) rfl
theorem tw_1525 : (.selects RX12 yX12_sold yX12_sold : Cond) ∈ lw_t2 := t2_7 (List.mem_of_getElem? (i := 19) rfl) rfl
theorem tw_1526 : (.code yX12_sold cX12_sold 4 (some .int) : Cond) ∈ lw_t2 := t2_7 (List.mem_of_getElem? (i := 20) rfl) rfl
theorem tw_1527 : (.methodLink RL 154 yX12_put : Cond) ∈ lw_t2 := t2_7 (List.mem_of_getElem? (i := 21) rfl) rfl
theorem tw_1528 : (.instanceMethod yX12_put : Cond) ∈ lw_t2 := t2_7 (List.mem_of_getElem? (i := 22) rfl) rfl
theorem tw_1529 : (.selects RX12 yX12_put yX12_put : Cond) ∈ lw_t2 := t2_7 (List.mem_of_getElem? (i := 23) rfl) rfl
theorem tw_1530 : (.code yX12_put cX12_put 3 (some .int) : Cond) ∈ lw_t2 := t2_7 (List.mem_of_getElem? (i := 24) rfl) rfl
theorem tw_1531 : (.methodLink RL 159 yX12_judge : Cond) ∈ lw_t2 := t2_7 (List.mem_of_getElem? (i := 25) rfl) rfl
theorem tw_1532 : (.instanceMethod yX12_judge : Cond) ∈ lw_t2 := t2_7 (List.mem_of_getElem? (i := 26) rfl) rfl
theorem tw_1533 : (.selects RX12 yX12_judge yX12_judge : Cond) ∈ lw_t2 := t2_7 (List.mem_of_getElem? (i := 27) rfl) rfl
theorem tw_1534 : (.code yX12_judge cX12_judge 3 (some .int) : Cond) ∈ lw_t2 := t2_7 (List.mem_of_getElem? (i := 28) rfl) rfl
theorem tw_1535 : (.methodLink RL 163 yX12_order : Cond) ∈ lw_t2 := t2_7 (List.mem_of_getElem? (i := 29) rfl) rfl
theorem tw_1536 : (.instanceMethod yX12_order : Cond) ∈ lw_t2 := t2_7 (List.mem_of_getElem? (i := 30) rfl) rfl
theorem tw_1537 : (.selects RX12 yX12_order yX12_order : Cond) ∈ lw_t2 := t2_7 (List.mem_of_getElem? (i := 31) rfl) rfl
theorem tw_1538 : (.code yX12_order cX12_order 13 (some .int) : Cond) ∈ lw_t2 := t2_7 (List.mem_of_getElem? (i := 32) rfl) rfl
theorem tw_1539 : (.constant RX12 367 (100000) : Cond) ∈ lw_t2 := t2_7 (List.mem_of_getElem? (i := 33) rfl) rfl
theorem tw_1540 : (.methodLink RL 167 yX12_check : Cond) ∈ lw_t2 := t2_7 (List.mem_of_getElem? (i := 34) rfl) rfl
theorem tw_1541 : (.instanceMethod yX12_check : Cond) ∈ lw_t2 := t2_7 (List.mem_of_getElem? (i := 35) rfl) rfl
theorem tw_1542 : (.selects RX12 yX12_check yX12_check : Cond) ∈ lw_t2 := t2_7 (List.mem_of_getElem? (i := 36) rfl) rfl
theorem tw_1543 : (.code yX12_check cX12_check 4 (some .int) : Cond) ∈ lw_t2 := t2_7 (List.mem_of_getElem? (i := 37) rfl) rfl
theorem tw_1544 : (.methodLink RL 171 yX12_count : Cond) ∈ lw_t2 := t2_7 (List.mem_of_getElem? (i := 38) rfl) rfl
theorem tw_1545 : (.instanceMethod yX12_count : Cond) ∈ lw_t2 := t2_7 (List.mem_of_getElem? (i := 39) rfl) rfl
theorem tw_1546 : (.selects RX12 yX12_count yX12_count : Cond) ∈ lw_t2 := t2_7 (List.mem_of_getElem? (i := 40) rfl) rfl
theorem tw_1547 : (.code yX12_count cX12_count 4 (some .int) : Cond) ∈ lw_t2 := t2_7 (List.mem_of_getElem? (i := 41) rfl) rfl
theorem tw_1548 : (.constantLong RL 81 (4294967295) : Cond) ∈ lw_t2 := t2_7 (List.mem_of_getElem? (i := 42) rfl) rfl
theorem tw_1564 : (.selects "[Ljava/lang/Object;" ⟨"java/lang/Object", "getClass", "()Ljava/lang/Class;"⟩ ⟨"java/lang/Object", "getClass", "()Ljava/lang/Class;"⟩ : Cond) ∈ lw_t2 := t2_7 (List.mem_of_getElem? (i := 58) rfl) rfl

