/-- the words of the tables that a callee may be handed -/
def kW : List Cond := lw_tbl.filter goodWord
theorem kW_sub {w : Cond} (h : w ∈ kW) : w ∈ lw_tbl := (List.mem_filter.mp h).1
theorem kW_good {w : Cond} (h : w ∈ kW) : (w.onTables && w.keeps) = true ∨ ∃ ty, w = .arrayClass ty := good_of_word (List.mem_filter.mp h).2
theorem kt_mem {ws big : List Cond} (ps : List Nat) (h : ws = ps.filterMap (fun i => big[i]?)) : ∀ w ∈ ws, w ∈ big := by
  intro w hw
  rw [h] at hw
  obtain ⟨i, -, hi⟩ := List.mem_filterMap.mp hw
  exact List.mem_of_getElem? hi
set_option maxRecDepth 20000 in
theorem inX0 : ∀ w ∈ u_ws RX0 TX0 12, w ∈ kW := fun w h => List.mem_filter.mpr ⟨kt_mem [130, 132, 134, 136, 138, 140, 142, 144, 146, 148, 150, 152] (by decide +kernel) w h, List.all_eq_true.mp (show (u_ws RX0 TX0 12).all goodWord = true from rfl) w h⟩
set_option maxRecDepth 20000 in
theorem inX1 : ∀ w ∈ u_ws RX1 TX1 4, w ∈ kW := fun w h => List.mem_filter.mpr ⟨kt_mem [253, 255, 257, 259] (by decide +kernel) w h, List.all_eq_true.mp (show (u_ws RX1 TX1 4).all goodWord = true from rfl) w h⟩
set_option maxRecDepth 20000 in
theorem inX2 : ∀ w ∈ u_ws RX2 TX2 5, w ∈ kW := fun w h => List.mem_filter.mpr ⟨kt_mem [90, 92, 94, 96, 98] (by decide +kernel) w h, List.all_eq_true.mp (show (u_ws RX2 TX2 5).all goodWord = true from rfl) w h⟩
set_option maxRecDepth 20000 in
theorem inX3 : ∀ w ∈ u_ws RX3 TX3 2, w ∈ kW := fun w h => List.mem_filter.mpr ⟨kt_mem [56, 58] (by decide +kernel) w h, List.all_eq_true.mp (show (u_ws RX3 TX3 2).all goodWord = true from rfl) w h⟩
set_option maxRecDepth 20000 in
theorem inX4 : ∀ w ∈ u_ws RX4 TX4 7, w ∈ kW := fun w h => List.mem_filter.mpr ⟨kt_mem [176, 178, 180, 182, 184, 186, 188] (by decide +kernel) w h, List.all_eq_true.mp (show (u_ws RX4 TX4 7).all goodWord = true from rfl) w h⟩
set_option maxRecDepth 20000 in
theorem inX5 : ∀ w ∈ u_ws RX5 TX5 8, w ∈ kW := fun w h => List.mem_filter.mpr ⟨kt_mem [224, 226, 228, 230, 232, 234, 236, 238] (by decide +kernel) w h, List.all_eq_true.mp (show (u_ws RX5 TX5 8).all goodWord = true from rfl) w h⟩
set_option maxRecDepth 20000 in
theorem inX6 : ∀ w ∈ u_ws RX6 TX6 9, w ∈ kW := fun w h => List.mem_filter.mpr ⟨kt_mem [272, 274, 276, 278, 280, 282, 284, 286, 288] (by decide +kernel) w h, List.all_eq_true.mp (show (u_ws RX6 TX6 9).all goodWord = true from rfl) w h⟩
set_option maxRecDepth 20000 in
theorem inX7 : ∀ w ∈ u_ws RX7 TX7 22, w ∈ kW := fun w h => List.mem_filter.mpr ⟨kt_mem [688, 690, 692, 694, 696, 698, 700, 702, 704, 706, 708, 710, 712, 714, 716, 718, 720, 722, 724, 726, 728, 730] (by decide +kernel) w h, List.all_eq_true.mp (show (u_ws RX7 TX7 22).all goodWord = true from rfl) w h⟩
theorem kt_0 {w : Cond} (h : w ∈ k2_sels lw_privs) : w ∈ lw_tbl := List.mem_append_left _ h
theorem kt_1 {w : Cond} (h : w ∈ tables_1_1) : w ∈ lw_tbl := List.mem_append_right _ (List.mem_append_left _ h)
theorem kt_2 {w : Cond} (h : w ∈ tables_1_2) : w ∈ lw_tbl := List.mem_append_right _ (List.mem_append_right _ (List.mem_append_left _ h))
theorem kt_3 {w : Cond} (h : w ∈ tables_1_3) : w ∈ lw_tbl := List.mem_append_right _ (List.mem_append_right _ (List.mem_append_right _ (List.mem_append_left _ h)))
theorem kt_4 {w : Cond} (h : w ∈ tables_1_4) : w ∈ lw_tbl := List.mem_append_right _ (List.mem_append_right _ (List.mem_append_right _ (List.mem_append_right _ h)))
theorem q_0 : (Cond.selects RX0 yX0_moodByWhatIsKnown yX0_moodByWhatIsKnown) ∈ kW := List.mem_filter.mpr ⟨kt_0 (List.mem_of_getElem? (i := 0) (by rfl)), rfl⟩
theorem q_1 : (Cond.selects RX5 yX5_sendIfDue yX5_sendIfDue) ∈ kW := List.mem_filter.mpr ⟨kt_0 (List.mem_of_getElem? (i := 1) (by rfl)), rfl⟩
theorem q_2 : (Cond.selects RX6 yX6_noticedBy yX6_noticedBy) ∈ kW := List.mem_filter.mpr ⟨kt_0 (List.mem_of_getElem? (i := 2) (by rfl)), rfl⟩
theorem q_3 : (Cond.selects RX6 yX6_enduredBy yX6_enduredBy) ∈ kW := List.mem_filter.mpr ⟨kt_0 (List.mem_of_getElem? (i := 3) (by rfl)), rfl⟩
theorem q_4 : (Cond.selects RX6 yX6_endures yX6_endures) ∈ kW := List.mem_filter.mpr ⟨kt_0 (List.mem_of_getElem? (i := 4) (by rfl)), rfl⟩
theorem q_5 : (Cond.selects RX6 yX6_remember yX6_remember) ∈ kW := List.mem_filter.mpr ⟨kt_0 (List.mem_of_getElem? (i := 5) (by rfl)), rfl⟩
theorem q_6 : (Cond.selects RX6 yX6_forgetFirstAct yX6_forgetFirstAct) ∈ kW := List.mem_filter.mpr ⟨kt_0 (List.mem_of_getElem? (i := 6) (by rfl)), rfl⟩
theorem q_7 : (Cond.selects RX6 yX6_canBe yX6_canBe) ∈ kW := List.mem_filter.mpr ⟨kt_0 (List.mem_of_getElem? (i := 7) (by rfl)), rfl⟩
theorem q_8 : (Cond.selects RX6 yX6_canBeDone yX6_canBeDone) ∈ kW := List.mem_filter.mpr ⟨kt_0 (List.mem_of_getElem? (i := 8) (by rfl)), rfl⟩
theorem q_9 : (Cond.selects RX1 yX1_lastTick yX1_lastTick) ∈ kW := List.mem_filter.mpr ⟨kt_0 (List.mem_of_getElem? (i := 9) (by rfl)), rfl⟩
theorem q_10 : (Cond.selects RX1 yX1_holdAt yX1_holdAt) ∈ kW := List.mem_filter.mpr ⟨kt_0 (List.mem_of_getElem? (i := 10) (by rfl)), rfl⟩
theorem q_11 : (Cond.selects RX6 yX6_sentWith yX6_sentWith) ∈ kW := List.mem_filter.mpr ⟨kt_0 (List.mem_of_getElem? (i := 11) (by rfl)), rfl⟩
theorem q_12 : (Cond.selects RX6 yX6_areUpWithLost yX6_areUpWithLost) ∈ kW := List.mem_filter.mpr ⟨kt_0 (List.mem_of_getElem? (i := 12) (by rfl)), rfl⟩
theorem q_13 : (Cond.selects RX7 yX7_readLink yX7_readLink) ∈ kW := List.mem_filter.mpr ⟨kt_0 (List.mem_of_getElem? (i := 13) (by rfl)), rfl⟩
theorem q_14 : (Cond.selects RX7 yX7_figure yX7_figure) ∈ kW := List.mem_filter.mpr ⟨kt_0 (List.mem_of_getElem? (i := 14) (by rfl)), rfl⟩
theorem q_15 : (Cond.selects RX7 yX7_readEvent yX7_readEvent) ∈ kW := List.mem_filter.mpr ⟨kt_0 (List.mem_of_getElem? (i := 15) (by rfl)), rfl⟩
theorem q_16 : (Cond.selects RX7 yX7_layTrial yX7_layTrial) ∈ kW := List.mem_filter.mpr ⟨kt_0 (List.mem_of_getElem? (i := 16) (by rfl)), rfl⟩
theorem q_17 : (Cond.selects RX7 yX7_goFor yX7_goFor) ∈ kW := List.mem_filter.mpr ⟨kt_0 (List.mem_of_getElem? (i := 17) (by rfl)), rfl⟩
theorem q_18 : (Cond.selects RX7 yX7_tick yX7_tick) ∈ kW := List.mem_filter.mpr ⟨kt_0 (List.mem_of_getElem? (i := 18) (by rfl)), rfl⟩
theorem q_19 : (Cond.selects RX7 yX7_take yX7_take) ∈ kW := List.mem_filter.mpr ⟨kt_0 (List.mem_of_getElem? (i := 19) (by rfl)), rfl⟩
theorem q_20 : (Cond.selects RX7 yX7_sendOn yX7_sendOn) ∈ kW := List.mem_filter.mpr ⟨kt_0 (List.mem_of_getElem? (i := 20) (by rfl)), rfl⟩
theorem q_21 : (Cond.selects RX7 yX7_noticed yX7_noticed) ∈ kW := List.mem_filter.mpr ⟨kt_0 (List.mem_of_getElem? (i := 21) (by rfl)), rfl⟩
theorem q_22 : (Cond.selects RX7 yX7_endured yX7_endured) ∈ kW := List.mem_filter.mpr ⟨kt_0 (List.mem_of_getElem? (i := 22) (by rfl)), rfl⟩
theorem q_23 : (Cond.selects RX7 yX7_endures yX7_endures) ∈ kW := List.mem_filter.mpr ⟨kt_0 (List.mem_of_getElem? (i := 23) (by rfl)), rfl⟩
theorem q_24 : (Cond.selects RX7 yX7_note yX7_note) ∈ kW := List.mem_filter.mpr ⟨kt_0 (List.mem_of_getElem? (i := 24) (by rfl)), rfl⟩
theorem q_25 : (Cond.selects RX7 yX7_does yX7_does) ∈ kW := List.mem_filter.mpr ⟨kt_0 (List.mem_of_getElem? (i := 25) (by rfl)), rfl⟩
theorem q_26 : (Cond.selects RX7 yX7_isSeen yX7_isSeen) ∈ kW := List.mem_filter.mpr ⟨kt_0 (List.mem_of_getElem? (i := 26) (by rfl)), rfl⟩
theorem q_27 : (Cond.selects RX7 yX7_sentBy yX7_sentBy) ∈ kW := List.mem_filter.mpr ⟨kt_0 (List.mem_of_getElem? (i := 27) (by rfl)), rfl⟩
theorem q_28 : (Cond.initialized RL) ∈ kW := List.mem_filter.mpr ⟨kt_1 (List.mem_of_getElem? (i := 0) (by rfl)), rfl⟩
theorem q_29 : (Cond.initialized RX6) ∈ kW := List.mem_filter.mpr ⟨kt_1 (List.mem_of_getElem? (i := 1) (by rfl)), rfl⟩
theorem q_30 : (Cond.initialized RX3) ∈ kW := List.mem_filter.mpr ⟨kt_1 (List.mem_of_getElem? (i := 2) (by rfl)), rfl⟩
theorem q_31 : (Cond.initialized RX5) ∈ kW := List.mem_filter.mpr ⟨kt_1 (List.mem_of_getElem? (i := 3) (by rfl)), rfl⟩
theorem q_32 : (Cond.initialized RX0) ∈ kW := List.mem_filter.mpr ⟨kt_1 (List.mem_of_getElem? (i := 4) (by rfl)), rfl⟩
theorem q_33 : (Cond.initialized RX2) ∈ kW := List.mem_filter.mpr ⟨kt_1 (List.mem_of_getElem? (i := 5) (by rfl)), rfl⟩
theorem q_34 : (Cond.initialized RX4) ∈ kW := List.mem_filter.mpr ⟨kt_1 (List.mem_of_getElem? (i := 6) (by rfl)), rfl⟩
theorem q_35 : (Cond.initialized RX1) ∈ kW := List.mem_filter.mpr ⟨kt_1 (List.mem_of_getElem? (i := 7) (by rfl)), rfl⟩
theorem q_36 : (Cond.initialized RX7) ∈ kW := List.mem_filter.mpr ⟨kt_1 (List.mem_of_getElem? (i := 8) (by rfl)), rfl⟩
theorem q_37 : (Cond.initialized RJ9) ∈ kW := List.mem_filter.mpr ⟨kt_1 (List.mem_of_getElem? (i := 9) (by rfl)), rfl⟩
theorem q_38 : (Cond.initialized RJ6) ∈ kW := List.mem_filter.mpr ⟨kt_1 (List.mem_of_getElem? (i := 10) (by rfl)), rfl⟩
theorem q_39 : (Cond.classLink RL 7 RX6) ∈ kW := List.mem_filter.mpr ⟨kt_1 (List.mem_of_getElem? (i := 11) (by rfl)), rfl⟩
theorem q_40 : (Cond.instantiable RX6 9) ∈ kW := List.mem_filter.mpr ⟨kt_1 (List.mem_of_getElem? (i := 12) (by rfl)), rfl⟩
theorem q_41 : (Cond.methodLink RL 9 yX6_init) ∈ kW := List.mem_filter.mpr ⟨kt_1 (List.mem_of_getElem? (i := 13) (by rfl)), rfl⟩
theorem q_42 : (Cond.instanceMethod yX6_init) ∈ kW := List.mem_filter.mpr ⟨kt_1 (List.mem_of_getElem? (i := 14) (by rfl)), rfl⟩
theorem q_43 : (Cond.code yX6_init cX6_init 2 none) ∈ kW := List.mem_filter.mpr ⟨kt_1 (List.mem_of_getElem? (i := 15) (by rfl)), rfl⟩
theorem q_44 : (Cond.methodLink RX6 1 objectInit) ∈ kW := List.mem_filter.mpr ⟨kt_1 (List.mem_of_getElem? (i := 16) (by rfl)), rfl⟩
theorem q_45 : (Cond.instanceMethod objectInit) ∈ kW := List.mem_filter.mpr ⟨kt_1 (List.mem_of_getElem? (i := 17) (by rfl)), rfl⟩
theorem q_46 : (Cond.code objectInit ⟨#[0xb1]⟩ 1 none) ∈ kW := List.mem_filter.mpr ⟨kt_1 (List.mem_of_getElem? (i := 18) (by rfl)), rfl⟩
theorem q_47 : (Cond.classLink RX6 7 RX3) ∈ kW := List.mem_filter.mpr ⟨kt_1 (List.mem_of_getElem? (i := 19) (by rfl)), rfl⟩
theorem q_48 : (Cond.instantiable RX3 2) ∈ kW := List.mem_filter.mpr ⟨kt_1 (List.mem_of_getElem? (i := 20) (by rfl)), rfl⟩
theorem q_49 : (Cond.methodLinkNest RX6 9 yX3_init RX6) ∈ lw_tbl := kt_1 (List.mem_of_getElem? (i := 21) (by rfl))
theorem q_50 : (Cond.instanceMethod yX3_init) ∈ kW := List.mem_filter.mpr ⟨kt_1 (List.mem_of_getElem? (i := 22) (by rfl)), rfl⟩
theorem q_51 : (Cond.code yX3_init cX3_init 1 none) ∈ kW := List.mem_filter.mpr ⟨kt_1 (List.mem_of_getElem? (i := 23) (by rfl)), rfl⟩
theorem q_52 : (Cond.methodLink RX3 3 objectInit) ∈ kW := List.mem_filter.mpr ⟨kt_1 (List.mem_of_getElem? (i := 24) (by rfl)), rfl⟩
theorem q_53 : (Cond.fieldLink RX3 9 "StillThere$Text" "signs" "[I") ∈ kW := List.mem_filter.mpr ⟨kt_1 (List.mem_of_getElem? (i := 25) (by rfl)), rfl⟩
theorem q_54 : (Cond.fieldLink RX3 15 "StillThere$Text" "length" "I") ∈ kW := List.mem_filter.mpr ⟨kt_1 (List.mem_of_getElem? (i := 26) (by rfl)), rfl⟩
theorem q_55 : (Cond.fieldLink RX6 44 "StillThere$Text" "length" "I") ∈ kW := List.mem_filter.mpr ⟨kt_1 (List.mem_of_getElem? (i := 27) (by rfl)), rfl⟩
theorem q_61 : (Cond.arrayClass .int) ∈ kW := List.mem_filter.mpr ⟨kt_1 (List.mem_of_getElem? (i := 33) (by rfl)), rfl⟩
theorem q_62 : (Cond.classLink RX6 16 RX5) ∈ kW := List.mem_filter.mpr ⟨kt_1 (List.mem_of_getElem? (i := 34) (by rfl)), rfl⟩
theorem q_63 : (Cond.instantiable RX5 8) ∈ kW := List.mem_filter.mpr ⟨kt_1 (List.mem_of_getElem? (i := 35) (by rfl)), rfl⟩
theorem q_64 : (Cond.methodLink RX6 18 yX5_init) ∈ kW := List.mem_filter.mpr ⟨kt_1 (List.mem_of_getElem? (i := 36) (by rfl)), rfl⟩
theorem q_65 : (Cond.instanceMethod yX5_init) ∈ kW := List.mem_filter.mpr ⟨kt_1 (List.mem_of_getElem? (i := 37) (by rfl)), rfl⟩
theorem q_66 : (Cond.code yX5_init cX5_init 1 none) ∈ kW := List.mem_filter.mpr ⟨kt_1 (List.mem_of_getElem? (i := 38) (by rfl)), rfl⟩
theorem q_67 : (Cond.methodLink RX5 3 objectInit) ∈ kW := List.mem_filter.mpr ⟨kt_1 (List.mem_of_getElem? (i := 39) (by rfl)), rfl⟩
theorem q_68 : (Cond.classLink RX5 9 RX0) ∈ kW := List.mem_filter.mpr ⟨kt_1 (List.mem_of_getElem? (i := 40) (by rfl)), rfl⟩
theorem q_69 : (Cond.instantiable RX0 12) ∈ kW := List.mem_filter.mpr ⟨kt_1 (List.mem_of_getElem? (i := 41) (by rfl)), rfl⟩
theorem q_70 : (Cond.methodLinkNest RX5 11 yX0_init RX6) ∈ lw_tbl := kt_1 (List.mem_of_getElem? (i := 42) (by rfl))
theorem q_71 : (Cond.instanceMethod yX0_init) ∈ kW := List.mem_filter.mpr ⟨kt_1 (List.mem_of_getElem? (i := 43) (by rfl)), rfl⟩
theorem q_72 : (Cond.code yX0_init cX0_init 1 none) ∈ kW := List.mem_filter.mpr ⟨kt_1 (List.mem_of_getElem? (i := 44) (by rfl)), rfl⟩
theorem q_73 : (Cond.methodLink RX0 3 objectInit) ∈ kW := List.mem_filter.mpr ⟨kt_1 (List.mem_of_getElem? (i := 45) (by rfl)), rfl⟩
theorem q_74 : (Cond.classLink RX0 9 RX2) ∈ kW := List.mem_filter.mpr ⟨kt_1 (List.mem_of_getElem? (i := 46) (by rfl)), rfl⟩
theorem q_75 : (Cond.instantiable RX2 5) ∈ kW := List.mem_filter.mpr ⟨kt_1 (List.mem_of_getElem? (i := 47) (by rfl)), rfl⟩
theorem q_76 : (Cond.methodLinkNest RX0 11 yX2_init RX6) ∈ lw_tbl := kt_1 (List.mem_of_getElem? (i := 48) (by rfl))
theorem q_77 : (Cond.instanceMethod yX2_init) ∈ kW := List.mem_filter.mpr ⟨kt_1 (List.mem_of_getElem? (i := 49) (by rfl)), rfl⟩
theorem q_78 : (Cond.code yX2_init cX2_init 1 none) ∈ kW := List.mem_filter.mpr ⟨kt_1 (List.mem_of_getElem? (i := 50) (by rfl)), rfl⟩
theorem q_79 : (Cond.methodLink RX2 3 objectInit) ∈ kW := List.mem_filter.mpr ⟨kt_1 (List.mem_of_getElem? (i := 51) (by rfl)), rfl⟩
theorem q_80 : (Cond.fieldLink RX2 9 "StillThere$Tale" "mood" "I") ∈ kW := List.mem_filter.mpr ⟨kt_1 (List.mem_of_getElem? (i := 52) (by rfl)), rfl⟩
theorem q_81 : (Cond.fieldLink RX0 71 "StillThere$Tale" "mood" "I") ∈ kW := List.mem_filter.mpr ⟨kt_1 (List.mem_of_getElem? (i := 53) (by rfl)), rfl⟩
theorem q_82 : (Cond.fieldLink RX2 15 "StillThere$Tale" "tx" "I") ∈ kW := List.mem_filter.mpr ⟨kt_1 (List.mem_of_getElem? (i := 54) (by rfl)), rfl⟩
theorem q_83 : (Cond.fieldLink RX0 79 "StillThere$Tale" "tx" "I") ∈ kW := List.mem_filter.mpr ⟨kt_1 (List.mem_of_getElem? (i := 55) (by rfl)), rfl⟩
theorem q_84 : (Cond.fieldLink RX2 18 "StillThere$Tale" "rx" "I") ∈ kW := List.mem_filter.mpr ⟨kt_1 (List.mem_of_getElem? (i := 56) (by rfl)), rfl⟩
theorem q_85 : (Cond.fieldLink RX0 72 "StillThere$Tale" "rx" "I") ∈ kW := List.mem_filter.mpr ⟨kt_1 (List.mem_of_getElem? (i := 57) (by rfl)), rfl⟩
theorem q_86 : (Cond.fieldLink RX2 21 "StillThere$Tale" "mult" "I") ∈ kW := List.mem_filter.mpr ⟨kt_1 (List.mem_of_getElem? (i := 58) (by rfl)), rfl⟩
theorem q_87 : (Cond.fieldLink RX0 80 "StillThere$Tale" "mult" "I") ∈ kW := List.mem_filter.mpr ⟨kt_1 (List.mem_of_getElem? (i := 59) (by rfl)), rfl⟩
theorem q_88 : (Cond.fieldLink RX2 24 "StillThere$Tale" "demand" "Z") ∈ kW := List.mem_filter.mpr ⟨kt_1 (List.mem_of_getElem? (i := 60) (by rfl)), rfl⟩
theorem q_89 : (Cond.fieldLink RX0 85 "StillThere$Tale" "demand" "Z") ∈ kW := List.mem_filter.mpr ⟨kt_1 (List.mem_of_getElem? (i := 61) (by rfl)), rfl⟩
theorem q_101 : (Cond.fieldLink RX0 18 "StillThere$End" "tx" "I") ∈ kW := List.mem_filter.mpr ⟨kt_1 (List.mem_of_getElem? (i := 73) (by rfl)), rfl⟩
theorem q_102 : (Cond.fieldLink RX2 31 "StillThere$End" "tx" "I") ∈ kW := List.mem_filter.mpr ⟨kt_1 (List.mem_of_getElem? (i := 74) (by rfl)), rfl⟩
theorem q_103 : (Cond.fieldLink RX0 22 "StillThere$End" "rx" "I") ∈ kW := List.mem_filter.mpr ⟨kt_1 (List.mem_of_getElem? (i := 75) (by rfl)), rfl⟩
theorem q_104 : (Cond.fieldLink RX2 32 "StillThere$End" "rx" "I") ∈ kW := List.mem_filter.mpr ⟨kt_1 (List.mem_of_getElem? (i := 76) (by rfl)), rfl⟩
theorem q_105 : (Cond.fieldLink RX6 173 "StillThere$End" "rx" "I") ∈ kW := List.mem_filter.mpr ⟨kt_1 (List.mem_of_getElem? (i := 77) (by rfl)), rfl⟩
theorem q_106 : (Cond.fieldLink RX0 25 "StillThere$End" "mult" "I") ∈ kW := List.mem_filter.mpr ⟨kt_1 (List.mem_of_getElem? (i := 78) (by rfl)), rfl⟩
theorem q_107 : (Cond.fieldLink RX2 33 "StillThere$End" "mult" "I") ∈ kW := List.mem_filter.mpr ⟨kt_1 (List.mem_of_getElem? (i := 79) (by rfl)), rfl⟩
theorem q_108 : (Cond.fieldLink RX0 28 "StillThere$End" "usedTx" "I") ∈ kW := List.mem_filter.mpr ⟨kt_1 (List.mem_of_getElem? (i := 80) (by rfl)), rfl⟩
theorem q_109 : (Cond.fieldLink RX0 31 "StillThere$End" "usedRx" "I") ∈ kW := List.mem_filter.mpr ⟨kt_1 (List.mem_of_getElem? (i := 81) (by rfl)), rfl⟩
theorem q_110 : (Cond.fieldLink RX6 176 "StillThere$End" "usedRx" "I") ∈ kW := List.mem_filter.mpr ⟨kt_1 (List.mem_of_getElem? (i := 82) (by rfl)), rfl⟩
theorem q_111 : (Cond.fieldLink RX0 34 "StillThere$End" "mood" "I") ∈ kW := List.mem_filter.mpr ⟨kt_1 (List.mem_of_getElem? (i := 83) (by rfl)), rfl⟩
theorem q_112 : (Cond.fieldLink RX2 28 "StillThere$End" "mood" "I") ∈ kW := List.mem_filter.mpr ⟨kt_1 (List.mem_of_getElem? (i := 84) (by rfl)), rfl⟩
theorem q_113 : (Cond.fieldLink RX1 48 "StillThere$End" "mood" "I") ∈ kW := List.mem_filter.mpr ⟨kt_1 (List.mem_of_getElem? (i := 85) (by rfl)), rfl⟩
theorem q_114 : (Cond.fieldLink RX5 56 "StillThere$End" "mood" "I") ∈ kW := List.mem_filter.mpr ⟨kt_1 (List.mem_of_getElem? (i := 86) (by rfl)), rfl⟩
theorem q_115 : (Cond.fieldLink RX6 146 "StillThere$End" "mood" "I") ∈ kW := List.mem_filter.mpr ⟨kt_1 (List.mem_of_getElem? (i := 87) (by rfl)), rfl⟩
theorem q_116 : (Cond.fieldLink RX0 37 "StillThere$End" "silence" "I") ∈ kW := List.mem_filter.mpr ⟨kt_1 (List.mem_of_getElem? (i := 88) (by rfl)), rfl⟩
theorem q_117 : (Cond.fieldLink RX0 40 "StillThere$End" "next" "I") ∈ kW := List.mem_filter.mpr ⟨kt_1 (List.mem_of_getElem? (i := 89) (by rfl)), rfl⟩
theorem q_118 : (Cond.fieldLink RX5 76 "StillThere$End" "next" "I") ∈ kW := List.mem_filter.mpr ⟨kt_1 (List.mem_of_getElem? (i := 90) (by rfl)), rfl⟩
theorem q_119 : (Cond.fieldLink RX0 43 "StillThere$End" "polls" "Z") ∈ kW := List.mem_filter.mpr ⟨kt_1 (List.mem_of_getElem? (i := 91) (by rfl)), rfl⟩
theorem q_120 : (Cond.fieldLink RX4 43 "StillThere$End" "polls" "Z") ∈ kW := List.mem_filter.mpr ⟨kt_1 (List.mem_of_getElem? (i := 92) (by rfl)), rfl⟩
theorem q_121 : (Cond.fieldLink RX6 242 "StillThere$End" "polls" "Z") ∈ kW := List.mem_filter.mpr ⟨kt_1 (List.mem_of_getElem? (i := 93) (by rfl)), rfl⟩
theorem q_122 : (Cond.fieldLink RX0 47 "StillThere$End" "wantsDemand" "Z") ∈ kW := List.mem_filter.mpr ⟨kt_1 (List.mem_of_getElem? (i := 94) (by rfl)), rfl⟩
theorem q_123 : (Cond.fieldLink RX2 34 "StillThere$End" "wantsDemand" "Z") ∈ kW := List.mem_filter.mpr ⟨kt_1 (List.mem_of_getElem? (i := 95) (by rfl)), rfl⟩
theorem q_124 : (Cond.fieldLink RX6 123 "StillThere$End" "wantsDemand" "Z") ∈ kW := List.mem_filter.mpr ⟨kt_1 (List.mem_of_getElem? (i := 96) (by rfl)), rfl⟩
theorem q_125 : (Cond.fieldLink RX0 50 "StillThere$End" "owes" "Z") ∈ kW := List.mem_filter.mpr ⟨kt_1 (List.mem_of_getElem? (i := 97) (by rfl)), rfl⟩
theorem q_126 : (Cond.fieldLink RX4 48 "StillThere$End" "owes" "Z") ∈ kW := List.mem_filter.mpr ⟨kt_1 (List.mem_of_getElem? (i := 98) (by rfl)), rfl⟩
theorem q_127 : (Cond.fieldLink RX5 85 "StillThere$End" "owes" "Z") ∈ kW := List.mem_filter.mpr ⟨kt_1 (List.mem_of_getElem? (i := 99) (by rfl)), rfl⟩
theorem q_128 : (Cond.fieldLink RX0 12 "StillThere$End" "knows" "LStillThere$Tale;") ∈ kW := List.mem_filter.mpr ⟨kt_1 (List.mem_of_getElem? (i := 100) (by rfl)), rfl⟩
theorem q_129 : (Cond.fieldLink RX6 86 "StillThere$End" "knows" "LStillThere$Tale;") ∈ kW := List.mem_filter.mpr ⟨kt_1 (List.mem_of_getElem? (i := 101) (by rfl)), rfl⟩
theorem q_155 : (Cond.classLink RX5 21 RX4) ∈ kW := List.mem_filter.mpr ⟨kt_1 (List.mem_of_getElem? (i := 127) (by rfl)), rfl⟩
theorem q_156 : (Cond.instantiable RX4 7) ∈ kW := List.mem_filter.mpr ⟨kt_1 (List.mem_of_getElem? (i := 128) (by rfl)), rfl⟩
theorem q_157 : (Cond.methodLinkNest RX5 23 yX4_init RX6) ∈ lw_tbl := kt_1 (List.mem_of_getElem? (i := 129) (by rfl))
theorem q_158 : (Cond.instanceMethod yX4_init) ∈ kW := List.mem_filter.mpr ⟨kt_1 (List.mem_of_getElem? (i := 130) (by rfl)), rfl⟩
theorem q_159 : (Cond.code yX4_init cX4_init 1 none) ∈ kW := List.mem_filter.mpr ⟨kt_1 (List.mem_of_getElem? (i := 131) (by rfl)), rfl⟩
theorem q_160 : (Cond.methodLink RX4 1 objectInit) ∈ kW := List.mem_filter.mpr ⟨kt_1 (List.mem_of_getElem? (i := 132) (by rfl)), rfl⟩
theorem q_161 : (Cond.classLink RX4 7 RX2) ∈ kW := List.mem_filter.mpr ⟨kt_1 (List.mem_of_getElem? (i := 133) (by rfl)), rfl⟩
theorem q_162 : (Cond.methodLinkNest RX4 9 yX2_init RX6) ∈ lw_tbl := kt_1 (List.mem_of_getElem? (i := 134) (by rfl))
theorem q_163 : (Cond.fieldLink RX4 16 "StillThere$Way" "isOpen" "Z") ∈ kW := List.mem_filter.mpr ⟨kt_1 (List.mem_of_getElem? (i := 135) (by rfl)), rfl⟩
theorem q_164 : (Cond.fieldLink RX6 97 "StillThere$Way" "isOpen" "Z") ∈ kW := List.mem_filter.mpr ⟨kt_1 (List.mem_of_getElem? (i := 136) (by rfl)), rfl⟩
theorem q_165 : (Cond.fieldLink RX4 20 "StillThere$Way" "hasLetter" "Z") ∈ kW := List.mem_filter.mpr ⟨kt_1 (List.mem_of_getElem? (i := 137) (by rfl)), rfl⟩
theorem q_166 : (Cond.fieldLink RX6 103 "StillThere$Way" "hasLetter" "Z") ∈ kW := List.mem_filter.mpr ⟨kt_1 (List.mem_of_getElem? (i := 138) (by rfl)), rfl⟩
theorem q_167 : (Cond.fieldLink RX4 23 "StillThere$Way" "isPoll" "Z") ∈ kW := List.mem_filter.mpr ⟨kt_1 (List.mem_of_getElem? (i := 139) (by rfl)), rfl⟩
theorem q_168 : (Cond.fieldLink RX0 105 "StillThere$Way" "isPoll" "Z") ∈ kW := List.mem_filter.mpr ⟨kt_1 (List.mem_of_getElem? (i := 140) (by rfl)), rfl⟩
theorem q_169 : (Cond.fieldLink RX4 26 "StillThere$Way" "isAnswer" "Z") ∈ kW := List.mem_filter.mpr ⟨kt_1 (List.mem_of_getElem? (i := 141) (by rfl)), rfl⟩
theorem q_170 : (Cond.fieldLink RX0 108 "StillThere$Way" "isAnswer" "Z") ∈ kW := List.mem_filter.mpr ⟨kt_1 (List.mem_of_getElem? (i := 142) (by rfl)), rfl⟩
theorem q_171 : (Cond.fieldLink RX4 29 "StillThere$Way" "isLost" "Z") ∈ kW := List.mem_filter.mpr ⟨kt_1 (List.mem_of_getElem? (i := 143) (by rfl)), rfl⟩
theorem q_172 : (Cond.fieldLink RX4 32 "StillThere$Way" "lossesToCome" "I") ∈ kW := List.mem_filter.mpr ⟨kt_1 (List.mem_of_getElem? (i := 144) (by rfl)), rfl⟩
theorem q_173 : (Cond.fieldLink RX6 232 "StillThere$Way" "lossesToCome" "I") ∈ kW := List.mem_filter.mpr ⟨kt_1 (List.mem_of_getElem? (i := 145) (by rfl)), rfl⟩
theorem q_174 : (Cond.fieldLink RX4 10 "StillThere$Way" "tale" "LStillThere$Tale;") ∈ kW := List.mem_filter.mpr ⟨kt_1 (List.mem_of_getElem? (i := 146) (by rfl)), rfl⟩
theorem q_175 : (Cond.fieldLink RX0 96 "StillThere$Way" "tale" "LStillThere$Tale;") ∈ kW := List.mem_filter.mpr ⟨kt_1 (List.mem_of_getElem? (i := 147) (by rfl)), rfl⟩
theorem q_191 : (Cond.methodLink RX5 31 yX5_reset) ∈ kW := List.mem_filter.mpr ⟨kt_1 (List.mem_of_getElem? (i := 163) (by rfl)), rfl⟩
theorem q_192 : (Cond.instanceMethod yX5_reset) ∈ kW := List.mem_filter.mpr ⟨kt_1 (List.mem_of_getElem? (i := 164) (by rfl)), rfl⟩
theorem q_193 : (Cond.selects RX5 yX5_reset yX5_reset) ∈ kW := List.mem_filter.mpr ⟨kt_1 (List.mem_of_getElem? (i := 165) (by rfl)), rfl⟩
theorem q_194 : (Cond.code yX5_reset cX5_reset 1 none) ∈ kW := List.mem_filter.mpr ⟨kt_1 (List.mem_of_getElem? (i := 166) (by rfl)), rfl⟩
theorem q_195 : (Cond.methodLink RX5 34 yX0_reset) ∈ kW := List.mem_filter.mpr ⟨kt_1 (List.mem_of_getElem? (i := 167) (by rfl)), rfl⟩
theorem q_196 : (Cond.instanceMethod yX0_reset) ∈ kW := List.mem_filter.mpr ⟨kt_1 (List.mem_of_getElem? (i := 168) (by rfl)), rfl⟩
theorem q_197 : (Cond.selects RX0 yX0_reset yX0_reset) ∈ kW := List.mem_filter.mpr ⟨kt_1 (List.mem_of_getElem? (i := 169) (by rfl)), rfl⟩
theorem q_198 : (Cond.code yX0_reset cX0_reset 1 none) ∈ kW := List.mem_filter.mpr ⟨kt_1 (List.mem_of_getElem? (i := 170) (by rfl)), rfl⟩
theorem q_199 : (Cond.methodLink RX0 53 yX2_reset) ∈ kW := List.mem_filter.mpr ⟨kt_1 (List.mem_of_getElem? (i := 171) (by rfl)), rfl⟩
theorem q_200 : (Cond.instanceMethod yX2_reset) ∈ kW := List.mem_filter.mpr ⟨kt_1 (List.mem_of_getElem? (i := 172) (by rfl)), rfl⟩
theorem q_201 : (Cond.selects RX2 yX2_reset yX2_reset) ∈ kW := List.mem_filter.mpr ⟨kt_1 (List.mem_of_getElem? (i := 173) (by rfl)), rfl⟩
theorem q_202 : (Cond.code yX2_reset cX2_reset 1 none) ∈ kW := List.mem_filter.mpr ⟨kt_1 (List.mem_of_getElem? (i := 174) (by rfl)), rfl⟩
theorem q_203 : (Cond.methodLink RX5 35 yX4_reset) ∈ kW := List.mem_filter.mpr ⟨kt_1 (List.mem_of_getElem? (i := 175) (by rfl)), rfl⟩
theorem q_204 : (Cond.instanceMethod yX4_reset) ∈ kW := List.mem_filter.mpr ⟨kt_1 (List.mem_of_getElem? (i := 176) (by rfl)), rfl⟩
theorem q_205 : (Cond.selects RX4 yX4_reset yX4_reset) ∈ kW := List.mem_filter.mpr ⟨kt_1 (List.mem_of_getElem? (i := 177) (by rfl)), rfl⟩
theorem q_206 : (Cond.code yX4_reset cX4_reset 1 none) ∈ kW := List.mem_filter.mpr ⟨kt_1 (List.mem_of_getElem? (i := 178) (by rfl)), rfl⟩
theorem q_207 : (Cond.methodLink RX4 36 yX2_reset) ∈ kW := List.mem_filter.mpr ⟨kt_1 (List.mem_of_getElem? (i := 179) (by rfl)), rfl⟩
theorem q_208 : (Cond.fieldLink RX5 12 "StillThere$World" "zero" "LStillThere$End;") ∈ kW := List.mem_filter.mpr ⟨kt_1 (List.mem_of_getElem? (i := 180) (by rfl)), rfl⟩
theorem q_209 : (Cond.fieldLink RX6 142 "StillThere$World" "zero" "LStillThere$End;") ∈ kW := List.mem_filter.mpr ⟨kt_1 (List.mem_of_getElem? (i := 181) (by rfl)), rfl⟩
theorem q_210 : (Cond.fieldLink RX5 18 "StillThere$World" "one" "LStillThere$End;") ∈ kW := List.mem_filter.mpr ⟨kt_1 (List.mem_of_getElem? (i := 182) (by rfl)), rfl⟩
theorem q_211 : (Cond.fieldLink RX6 149 "StillThere$World" "one" "LStillThere$End;") ∈ kW := List.mem_filter.mpr ⟨kt_1 (List.mem_of_getElem? (i := 183) (by rfl)), rfl⟩
theorem q_212 : (Cond.fieldLink RX5 24 "StillThere$World" "there" "LStillThere$Way;") ∈ kW := List.mem_filter.mpr ⟨kt_1 (List.mem_of_getElem? (i := 184) (by rfl)), rfl⟩
theorem q_213 : (Cond.fieldLink RX6 218 "StillThere$World" "there" "LStillThere$Way;") ∈ kW := List.mem_filter.mpr ⟨kt_1 (List.mem_of_getElem? (i := 185) (by rfl)), rfl⟩
theorem q_214 : (Cond.fieldLink RX5 28 "StillThere$World" "back" "LStillThere$Way;") ∈ kW := List.mem_filter.mpr ⟨kt_1 (List.mem_of_getElem? (i := 186) (by rfl)), rfl⟩
theorem q_215 : (Cond.fieldLink RX6 222 "StillThere$World" "back" "LStillThere$Way;") ∈ kW := List.mem_filter.mpr ⟨kt_1 (List.mem_of_getElem? (i := 187) (by rfl)), rfl⟩
theorem q_216 : (Cond.fieldLink RX5 36 "StillThere$World" "clock" "I") ∈ kW := List.mem_filter.mpr ⟨kt_1 (List.mem_of_getElem? (i := 188) (by rfl)), rfl⟩
theorem q_217 : (Cond.fieldLink RX6 63 "StillThere$World" "clock" "I") ∈ kW := List.mem_filter.mpr ⟨kt_1 (List.mem_of_getElem? (i := 189) (by rfl)), rfl⟩
theorem q_218 : (Cond.fieldLink RX5 40 "StillThere$World" "sent" "I") ∈ kW := List.mem_filter.mpr ⟨kt_1 (List.mem_of_getElem? (i := 190) (by rfl)), rfl⟩
theorem q_219 : (Cond.fieldLink RX6 152 "StillThere$World" "sent" "I") ∈ kW := List.mem_filter.mpr ⟨kt_1 (List.mem_of_getElem? (i := 191) (by rfl)), rfl⟩
theorem q_220 : (Cond.fieldLink RX5 43 "StillThere$World" "uptime" "I") ∈ kW := List.mem_filter.mpr ⟨kt_1 (List.mem_of_getElem? (i := 192) (by rfl)), rfl⟩
theorem q_221 : (Cond.fieldLink RX6 155 "StillThere$World" "uptime" "I") ∈ kW := List.mem_filter.mpr ⟨kt_1 (List.mem_of_getElem? (i := 193) (by rfl)), rfl⟩
theorem q_222 : (Cond.fieldLink RX5 46 "StillThere$World" "lostWhenSent" "I") ∈ kW := List.mem_filter.mpr ⟨kt_1 (List.mem_of_getElem? (i := 194) (by rfl)), rfl⟩
theorem q_223 : (Cond.fieldLink RX6 257 "StillThere$World" "lostWhenSent" "I") ∈ kW := List.mem_filter.mpr ⟨kt_1 (List.mem_of_getElem? (i := 195) (by rfl)), rfl⟩
theorem q_241 : (Cond.arrayOver (.object "StillThere$World")) ∈ lw_tbl := kt_1 (List.mem_of_getElem? (i := 213) (by rfl))
theorem q_242 : (Cond.classLink RX6 37 RX1) ∈ kW := List.mem_filter.mpr ⟨kt_1 (List.mem_of_getElem? (i := 214) (by rfl)), rfl⟩
theorem q_243 : (Cond.instantiable RX1 4) ∈ kW := List.mem_filter.mpr ⟨kt_1 (List.mem_of_getElem? (i := 215) (by rfl)), rfl⟩
theorem q_244 : (Cond.methodLinkNest RX6 39 yX1_init RX6) ∈ lw_tbl := kt_1 (List.mem_of_getElem? (i := 216) (by rfl))
theorem q_245 : (Cond.instanceMethod yX1_init) ∈ kW := List.mem_filter.mpr ⟨kt_1 (List.mem_of_getElem? (i := 217) (by rfl)), rfl⟩
theorem q_246 : (Cond.code yX1_init cX1_init 1 none) ∈ kW := List.mem_filter.mpr ⟨kt_1 (List.mem_of_getElem? (i := 218) (by rfl)), rfl⟩
theorem q_247 : (Cond.methodLink RX1 3 objectInit) ∈ kW := List.mem_filter.mpr ⟨kt_1 (List.mem_of_getElem? (i := 219) (by rfl)), rfl⟩
theorem q_248 : (Cond.fieldLink RX1 9 "StillThere$Sights" "ticks" "[I") ∈ kW := List.mem_filter.mpr ⟨kt_1 (List.mem_of_getElem? (i := 220) (by rfl)), rfl⟩
theorem q_249 : (Cond.fieldLink RX1 15 "StillThere$Sights" "ends" "[I") ∈ kW := List.mem_filter.mpr ⟨kt_1 (List.mem_of_getElem? (i := 221) (by rfl)), rfl⟩
theorem q_250 : (Cond.fieldLink RX1 18 "StillThere$Sights" "moods" "[I") ∈ kW := List.mem_filter.mpr ⟨kt_1 (List.mem_of_getElem? (i := 222) (by rfl)), rfl⟩
theorem q_251 : (Cond.fieldLink RX1 21 "StillThere$Sights" "size" "I") ∈ kW := List.mem_filter.mpr ⟨kt_1 (List.mem_of_getElem? (i := 223) (by rfl)), rfl⟩
theorem q_252 : (Cond.fieldLink RX6 167 "StillThere$Sights" "size" "I") ∈ kW := List.mem_filter.mpr ⟨kt_1 (List.mem_of_getElem? (i := 224) (by rfl)), rfl⟩
theorem q_262 : (Cond.arrayClass .boolean) ∈ kW := List.mem_filter.mpr ⟨kt_1 (List.mem_of_getElem? (i := 234) (by rfl)), rfl⟩
theorem q_263 : (Cond.fieldLink RX6 10 "StillThere" "text" "LStillThere$Text;") ∈ kW := List.mem_filter.mpr ⟨kt_1 (List.mem_of_getElem? (i := 235) (by rfl)), rfl⟩
theorem q_264 : (Cond.fieldLink RX6 19 "StillThere" "now" "LStillThere$World;") ∈ kW := List.mem_filter.mpr ⟨kt_1 (List.mem_of_getElem? (i := 236) (by rfl)), rfl⟩
theorem q_265 : (Cond.fieldLink RX6 23 "StillThere" "tried" "LStillThere$World;") ∈ kW := List.mem_filter.mpr ⟨kt_1 (List.mem_of_getElem? (i := 237) (by rfl)), rfl⟩
theorem q_266 : (Cond.fieldLink RX6 26 "StillThere" "beforeActs" "[LStillThere$World;") ∈ kW := List.mem_filter.mpr ⟨kt_1 (List.mem_of_getElem? (i := 238) (by rfl)), rfl⟩
theorem q_267 : (Cond.fieldLink RX6 60 "StillThere" "actCount" "I") ∈ kW := List.mem_filter.mpr ⟨kt_1 (List.mem_of_getElem? (i := 239) (by rfl)), rfl⟩
theorem q_268 : (Cond.fieldLink RX6 30 "StillThere" "slots" "[LStillThere$World;") ∈ kW := List.mem_filter.mpr ⟨kt_2 (List.mem_of_getElem? (i := 0) (by rfl)), rfl⟩
theorem q_269 : (Cond.fieldLink RX6 33 "StillThere" "isKept" "[Z") ∈ kW := List.mem_filter.mpr ⟨kt_2 (List.mem_of_getElem? (i := 1) (by rfl)), rfl⟩
theorem q_270 : (Cond.fieldLink RX6 40 "StillThere" "sights" "LStillThere$Sights;") ∈ kW := List.mem_filter.mpr ⟨kt_2 (List.mem_of_getElem? (i := 2) (by rfl)), rfl⟩
theorem q_271 : (Cond.fieldLink RX6 204 "StillThere" "theSeed" "J") ∈ kW := List.mem_filter.mpr ⟨kt_2 (List.mem_of_getElem? (i := 3) (by rfl)), rfl⟩
theorem q_291 : (Cond.methodLink RL 13 yX6_write) ∈ kW := List.mem_filter.mpr ⟨kt_2 (List.mem_of_getElem? (i := 23) (by rfl)), rfl⟩
theorem q_292 : (Cond.instanceMethod yX6_write) ∈ kW := List.mem_filter.mpr ⟨kt_2 (List.mem_of_getElem? (i := 24) (by rfl)), rfl⟩
theorem q_293 : (Cond.selects RX6 yX6_write yX6_write) ∈ kW := List.mem_filter.mpr ⟨kt_2 (List.mem_of_getElem? (i := 25) (by rfl)), rfl⟩
theorem q_294 : (Cond.code yX6_write cX6_write 2 (some .int)) ∈ kW := List.mem_filter.mpr ⟨kt_2 (List.mem_of_getElem? (i := 26) (by rfl)), rfl⟩
theorem q_295 : (Cond.methodLink RX6 48 yX3_add) ∈ kW := List.mem_filter.mpr ⟨kt_2 (List.mem_of_getElem? (i := 27) (by rfl)), rfl⟩
theorem q_296 : (Cond.instanceMethod yX3_add) ∈ kW := List.mem_filter.mpr ⟨kt_2 (List.mem_of_getElem? (i := 28) (by rfl)), rfl⟩
theorem q_297 : (Cond.selects RX3 yX3_add yX3_add) ∈ kW := List.mem_filter.mpr ⟨kt_2 (List.mem_of_getElem? (i := 29) (by rfl)), rfl⟩
theorem q_298 : (Cond.code yX3_add cX3_add 2 none) ∈ kW := List.mem_filter.mpr ⟨kt_2 (List.mem_of_getElem? (i := 30) (by rfl)), rfl⟩
theorem q_299 : (Cond.methodLink RL 18 yX6_wipe) ∈ kW := List.mem_filter.mpr ⟨kt_2 (List.mem_of_getElem? (i := 31) (by rfl)), rfl⟩
theorem q_300 : (Cond.instanceMethod yX6_wipe) ∈ kW := List.mem_filter.mpr ⟨kt_2 (List.mem_of_getElem? (i := 32) (by rfl)), rfl⟩
theorem q_301 : (Cond.selects RX6 yX6_wipe yX6_wipe) ∈ kW := List.mem_filter.mpr ⟨kt_2 (List.mem_of_getElem? (i := 33) (by rfl)), rfl⟩
theorem q_302 : (Cond.code yX6_wipe cX6_wipe 2 (some .int)) ∈ kW := List.mem_filter.mpr ⟨kt_2 (List.mem_of_getElem? (i := 34) (by rfl)), rfl⟩
theorem q_303 : (Cond.methodLink RL 23 yX6_fault) ∈ kW := List.mem_filter.mpr ⟨kt_2 (List.mem_of_getElem? (i := 35) (by rfl)), rfl⟩
theorem q_304 : (Cond.instanceMethod yX6_fault) ∈ kW := List.mem_filter.mpr ⟨kt_2 (List.mem_of_getElem? (i := 36) (by rfl)), rfl⟩
theorem q_305 : (Cond.selects RX6 yX6_fault yX6_fault) ∈ kW := List.mem_filter.mpr ⟨kt_2 (List.mem_of_getElem? (i := 37) (by rfl)), rfl⟩
theorem q_306 : (Cond.code yX6_fault cX6_fault 1 (some .int)) ∈ kW := List.mem_filter.mpr ⟨kt_2 (List.mem_of_getElem? (i := 38) (by rfl)), rfl⟩
theorem q_307 : (Cond.methodLink RX6 52 yX3_faultPlace) ∈ kW := List.mem_filter.mpr ⟨kt_2 (List.mem_of_getElem? (i := 39) (by rfl)), rfl⟩
theorem q_308 : (Cond.instanceMethod yX3_faultPlace) ∈ kW := List.mem_filter.mpr ⟨kt_2 (List.mem_of_getElem? (i := 40) (by rfl)), rfl⟩
theorem q_309 : (Cond.selects RX3 yX3_faultPlace yX3_faultPlace) ∈ kW := List.mem_filter.mpr ⟨kt_2 (List.mem_of_getElem? (i := 41) (by rfl)), rfl⟩
theorem q_310 : (Cond.code yX3_faultPlace cX3_faultPlace 4 (some .int)) ∈ kW := List.mem_filter.mpr ⟨kt_2 (List.mem_of_getElem? (i := 42) (by rfl)), rfl⟩
theorem q_311 : (Cond.methodLink RX3 19 yX3_fitsHead) ∈ kW := List.mem_filter.mpr ⟨kt_2 (List.mem_of_getElem? (i := 43) (by rfl)), rfl⟩
theorem q_312 : (Cond.static yX3_fitsHead) ∈ kW := List.mem_filter.mpr ⟨kt_2 (List.mem_of_getElem? (i := 44) (by rfl)), rfl⟩
theorem q_313 : (Cond.code yX3_fitsHead cX3_fitsHead 3 (some .boolean)) ∈ kW := List.mem_filter.mpr ⟨kt_2 (List.mem_of_getElem? (i := 45) (by rfl)), rfl⟩
theorem q_314 : (Cond.methodLink RX3 23 yX3_fitsEvent) ∈ kW := List.mem_filter.mpr ⟨kt_2 (List.mem_of_getElem? (i := 46) (by rfl)), rfl⟩
theorem q_315 : (Cond.static yX3_fitsEvent) ∈ kW := List.mem_filter.mpr ⟨kt_2 (List.mem_of_getElem? (i := 47) (by rfl)), rfl⟩
theorem q_316 : (Cond.code yX3_fitsEvent cX3_fitsEvent 2 (some .boolean)) ∈ kW := List.mem_filter.mpr ⟨kt_2 (List.mem_of_getElem? (i := 48) (by rfl)), rfl⟩
theorem q_317 : (Cond.methodLink RL 27 yX6_link) ∈ kW := List.mem_filter.mpr ⟨kt_2 (List.mem_of_getElem? (i := 49) (by rfl)), rfl⟩
theorem q_318 : (Cond.instanceMethod yX6_link) ∈ kW := List.mem_filter.mpr ⟨kt_2 (List.mem_of_getElem? (i := 50) (by rfl)), rfl⟩
theorem q_319 : (Cond.selects RX6 yX6_link yX6_link) ∈ kW := List.mem_filter.mpr ⟨kt_2 (List.mem_of_getElem? (i := 51) (by rfl)), rfl⟩
theorem q_320 : (Cond.code yX6_link cX6_link 2 (some .int)) ∈ kW := List.mem_filter.mpr ⟨kt_2 (List.mem_of_getElem? (i := 52) (by rfl)), rfl⟩
theorem q_321 : (Cond.methodLink RX6 56 yX3_layOut) ∈ kW := List.mem_filter.mpr ⟨kt_2 (List.mem_of_getElem? (i := 53) (by rfl)), rfl⟩
theorem q_322 : (Cond.instanceMethod yX3_layOut) ∈ kW := List.mem_filter.mpr ⟨kt_2 (List.mem_of_getElem? (i := 54) (by rfl)), rfl⟩
theorem q_323 : (Cond.selects RX3 yX3_layOut yX3_layOut) ∈ kW := List.mem_filter.mpr ⟨kt_2 (List.mem_of_getElem? (i := 55) (by rfl)), rfl⟩
theorem q_324 : (Cond.code yX3_layOut cX3_layOut 5 none) ∈ kW := List.mem_filter.mpr ⟨kt_2 (List.mem_of_getElem? (i := 56) (by rfl)), rfl⟩
theorem q_325 : (Cond.methodLink RX3 27 yX5_reset) ∈ kW := List.mem_filter.mpr ⟨kt_2 (List.mem_of_getElem? (i := 57) (by rfl)), rfl⟩
theorem q_326 : (Cond.methodLink RX3 32 yX5_endOf) ∈ kW := List.mem_filter.mpr ⟨kt_2 (List.mem_of_getElem? (i := 58) (by rfl)), rfl⟩
theorem q_327 : (Cond.instanceMethod yX5_endOf) ∈ kW := List.mem_filter.mpr ⟨kt_2 (List.mem_of_getElem? (i := 59) (by rfl)), rfl⟩
theorem q_328 : (Cond.selects RX5 yX5_endOf yX5_endOf) ∈ kW := List.mem_filter.mpr ⟨kt_2 (List.mem_of_getElem? (i := 60) (by rfl)), rfl⟩
theorem q_329 : (Cond.code yX5_endOf cX5_endOf 2 (some (.object "StillThere$End"))) ∈ kW := List.mem_filter.mpr ⟨kt_2 (List.mem_of_getElem? (i := 61) (by rfl)), rfl⟩
theorem q_330 : (Cond.methodLink RX3 36 yX0_takeSetting) ∈ kW := List.mem_filter.mpr ⟨kt_2 (List.mem_of_getElem? (i := 62) (by rfl)), rfl⟩
theorem q_331 : (Cond.instanceMethod yX0_takeSetting) ∈ kW := List.mem_filter.mpr ⟨kt_2 (List.mem_of_getElem? (i := 63) (by rfl)), rfl⟩
theorem q_332 : (Cond.selects RX0 yX0_takeSetting yX0_takeSetting) ∈ kW := List.mem_filter.mpr ⟨kt_2 (List.mem_of_getElem? (i := 64) (by rfl)), rfl⟩
theorem q_333 : (Cond.code yX0_takeSetting cX0_takeSetting 3 none) ∈ kW := List.mem_filter.mpr ⟨kt_2 (List.mem_of_getElem? (i := 65) (by rfl)), rfl⟩
theorem q_334 : (Cond.methodLink RX0 114 Lib.Math.min.name) ∈ kW := List.mem_filter.mpr ⟨kt_2 (List.mem_of_getElem? (i := 66) (by rfl)), rfl⟩
theorem q_335 : (Cond.static Lib.Math.min.name) ∈ kW := List.mem_filter.mpr ⟨kt_2 (List.mem_of_getElem? (i := 67) (by rfl)), rfl⟩
theorem q_336 : (Cond.code Lib.Math.min.name Lib.Math.min.code 2 (some .int)) ∈ kW := List.mem_filter.mpr ⟨kt_2 (List.mem_of_getElem? (i := 68) (by rfl)), rfl⟩
theorem q_337 : (Cond.methodLink RX0 73 Lib.Math.max.name) ∈ kW := List.mem_filter.mpr ⟨kt_2 (List.mem_of_getElem? (i := 69) (by rfl)), rfl⟩
theorem q_338 : (Cond.static Lib.Math.max.name) ∈ kW := List.mem_filter.mpr ⟨kt_2 (List.mem_of_getElem? (i := 70) (by rfl)), rfl⟩
theorem q_339 : (Cond.code Lib.Math.max.name Lib.Math.max.code 2 (some .int)) ∈ kW := List.mem_filter.mpr ⟨kt_2 (List.mem_of_getElem? (i := 71) (by rfl)), rfl⟩
theorem q_340 : (Cond.methodLink RX3 42 yX0_turnDemand) ∈ kW := List.mem_filter.mpr ⟨kt_2 (List.mem_of_getElem? (i := 72) (by rfl)), rfl⟩
theorem q_341 : (Cond.instanceMethod yX0_turnDemand) ∈ kW := List.mem_filter.mpr ⟨kt_2 (List.mem_of_getElem? (i := 73) (by rfl)), rfl⟩
theorem q_342 : (Cond.selects RX0 yX0_turnDemand yX0_turnDemand) ∈ kW := List.mem_filter.mpr ⟨kt_2 (List.mem_of_getElem? (i := 74) (by rfl)), rfl⟩
theorem q_343 : (Cond.code yX0_turnDemand cX0_turnDemand 1 none) ∈ kW := List.mem_filter.mpr ⟨kt_2 (List.mem_of_getElem? (i := 75) (by rfl)), rfl⟩
theorem q_344 : (Cond.methodLink RX3 45 yX5_wayOf) ∈ kW := List.mem_filter.mpr ⟨kt_2 (List.mem_of_getElem? (i := 76) (by rfl)), rfl⟩
theorem q_345 : (Cond.instanceMethod yX5_wayOf) ∈ kW := List.mem_filter.mpr ⟨kt_2 (List.mem_of_getElem? (i := 77) (by rfl)), rfl⟩
theorem q_346 : (Cond.selects RX5 yX5_wayOf yX5_wayOf) ∈ kW := List.mem_filter.mpr ⟨kt_2 (List.mem_of_getElem? (i := 78) (by rfl)), rfl⟩
theorem q_347 : (Cond.code yX5_wayOf cX5_wayOf 2 (some (.object "StillThere$Way"))) ∈ kW := List.mem_filter.mpr ⟨kt_2 (List.mem_of_getElem? (i := 79) (by rfl)), rfl⟩
theorem q_348 : (Cond.methodLink RX3 49 yX4_turnOver) ∈ kW := List.mem_filter.mpr ⟨kt_2 (List.mem_of_getElem? (i := 80) (by rfl)), rfl⟩
theorem q_349 : (Cond.instanceMethod yX4_turnOver) ∈ kW := List.mem_filter.mpr ⟨kt_2 (List.mem_of_getElem? (i := 81) (by rfl)), rfl⟩
theorem q_350 : (Cond.selects RX4 yX4_turnOver yX4_turnOver) ∈ kW := List.mem_filter.mpr ⟨kt_2 (List.mem_of_getElem? (i := 82) (by rfl)), rfl⟩
theorem q_351 : (Cond.code yX4_turnOver cX4_turnOver 1 none) ∈ kW := List.mem_filter.mpr ⟨kt_2 (List.mem_of_getElem? (i := 83) (by rfl)), rfl⟩
theorem q_352 : (Cond.methodLink RX3 54 yX5_run) ∈ kW := List.mem_filter.mpr ⟨kt_2 (List.mem_of_getElem? (i := 84) (by rfl)), rfl⟩
theorem q_353 : (Cond.instanceMethod yX5_run) ∈ kW := List.mem_filter.mpr ⟨kt_2 (List.mem_of_getElem? (i := 85) (by rfl)), rfl⟩
theorem q_354 : (Cond.selects RX5 yX5_run yX5_run) ∈ kW := List.mem_filter.mpr ⟨kt_2 (List.mem_of_getElem? (i := 86) (by rfl)), rfl⟩
theorem q_355 : (Cond.code yX5_run cX5_run 3 none) ∈ kW := List.mem_filter.mpr ⟨kt_2 (List.mem_of_getElem? (i := 87) (by rfl)), rfl⟩
theorem q_356 : (Cond.methodLink RX5 59 yX5_tick) ∈ kW := List.mem_filter.mpr ⟨kt_2 (List.mem_of_getElem? (i := 88) (by rfl)), rfl⟩
theorem q_357 : (Cond.instanceMethod yX5_tick) ∈ kW := List.mem_filter.mpr ⟨kt_2 (List.mem_of_getElem? (i := 89) (by rfl)), rfl⟩
theorem q_358 : (Cond.selects RX5 yX5_tick yX5_tick) ∈ kW := List.mem_filter.mpr ⟨kt_2 (List.mem_of_getElem? (i := 90) (by rfl)), rfl⟩
theorem q_359 : (Cond.code yX5_tick cX5_tick 1 none) ∈ kW := List.mem_filter.mpr ⟨kt_2 (List.mem_of_getElem? (i := 91) (by rfl)), rfl⟩
theorem q_360 : (Cond.methodLink RX5 62 yX0_listen) ∈ kW := List.mem_filter.mpr ⟨kt_2 (List.mem_of_getElem? (i := 92) (by rfl)), rfl⟩
theorem q_361 : (Cond.instanceMethod yX0_listen) ∈ kW := List.mem_filter.mpr ⟨kt_2 (List.mem_of_getElem? (i := 93) (by rfl)), rfl⟩
theorem q_362 : (Cond.selects RX0 yX0_listen yX0_listen) ∈ kW := List.mem_filter.mpr ⟨kt_2 (List.mem_of_getElem? (i := 94) (by rfl)), rfl⟩
theorem q_363 : (Cond.code yX0_listen cX0_listen 2 none) ∈ kW := List.mem_filter.mpr ⟨kt_2 (List.mem_of_getElem? (i := 95) (by rfl)), rfl⟩
theorem q_364 : (Cond.methodLink RX0 91 yX4_takeOff) ∈ kW := List.mem_filter.mpr ⟨kt_2 (List.mem_of_getElem? (i := 96) (by rfl)), rfl⟩
theorem q_365 : (Cond.instanceMethod yX4_takeOff) ∈ kW := List.mem_filter.mpr ⟨kt_2 (List.mem_of_getElem? (i := 97) (by rfl)), rfl⟩
theorem q_366 : (Cond.selects RX4 yX4_takeOff yX4_takeOff) ∈ kW := List.mem_filter.mpr ⟨kt_2 (List.mem_of_getElem? (i := 98) (by rfl)), rfl⟩
theorem q_367 : (Cond.code yX4_takeOff cX4_takeOff 1 (some .boolean)) ∈ kW := List.mem_filter.mpr ⟨kt_2 (List.mem_of_getElem? (i := 99) (by rfl)), rfl⟩
theorem q_368 : (Cond.methodLink RX0 56 yX2_copyFrom) ∈ kW := List.mem_filter.mpr ⟨kt_2 (List.mem_of_getElem? (i := 100) (by rfl)), rfl⟩
theorem q_369 : (Cond.instanceMethod yX2_copyFrom) ∈ kW := List.mem_filter.mpr ⟨kt_2 (List.mem_of_getElem? (i := 101) (by rfl)), rfl⟩
theorem q_370 : (Cond.selects RX2 yX2_copyFrom yX2_copyFrom) ∈ kW := List.mem_filter.mpr ⟨kt_2 (List.mem_of_getElem? (i := 102) (by rfl)), rfl⟩
theorem q_371 : (Cond.code yX2_copyFrom cX2_copyFrom 2 none) ∈ kW := List.mem_filter.mpr ⟨kt_2 (List.mem_of_getElem? (i := 103) (by rfl)), rfl⟩
theorem q_372 : (Cond.methodLink RX0 99 yX0_fall) ∈ kW := List.mem_filter.mpr ⟨kt_2 (List.mem_of_getElem? (i := 104) (by rfl)), rfl⟩
theorem q_373 : (Cond.instanceMethod yX0_fall) ∈ kW := List.mem_filter.mpr ⟨kt_2 (List.mem_of_getElem? (i := 105) (by rfl)), rfl⟩
theorem q_374 : (Cond.selects RX0 yX0_fall yX0_fall) ∈ kW := List.mem_filter.mpr ⟨kt_2 (List.mem_of_getElem? (i := 106) (by rfl)), rfl⟩
theorem q_375 : (Cond.code yX0_fall cX0_fall 1 none) ∈ kW := List.mem_filter.mpr ⟨kt_2 (List.mem_of_getElem? (i := 107) (by rfl)), rfl⟩
theorem q_376 : (Cond.methodLink RX0 88 yX0_endPoll) ∈ kW := List.mem_filter.mpr ⟨kt_2 (List.mem_of_getElem? (i := 108) (by rfl)), rfl⟩
theorem q_377 : (Cond.instanceMethod yX0_endPoll) ∈ kW := List.mem_filter.mpr ⟨kt_2 (List.mem_of_getElem? (i := 109) (by rfl)), rfl⟩
theorem q_378 : (Cond.selects RX0 yX0_endPoll yX0_endPoll) ∈ kW := List.mem_filter.mpr ⟨kt_2 (List.mem_of_getElem? (i := 110) (by rfl)), rfl⟩
theorem q_379 : (Cond.code yX0_endPoll cX0_endPoll 1 none) ∈ kW := List.mem_filter.mpr ⟨kt_2 (List.mem_of_getElem? (i := 111) (by rfl)), rfl⟩
theorem q_380 : (Cond.methodLink RX0 102 yX0_moodByWhatIsKnown) ∈ kW := List.mem_filter.mpr ⟨kt_2 (List.mem_of_getElem? (i := 112) (by rfl)), rfl⟩
theorem q_382 : (Cond.instanceMethod yX0_moodByWhatIsKnown) ∈ kW := List.mem_filter.mpr ⟨kt_2 (List.mem_of_getElem? (i := 114) (by rfl)), rfl⟩
theorem q_383 : (Cond.code yX0_moodByWhatIsKnown cX0_moodByWhatIsKnown 1 (some .int)) ∈ kW := List.mem_filter.mpr ⟨kt_2 (List.mem_of_getElem? (i := 115) (by rfl)), rfl⟩
theorem q_384 : (Cond.methodLink RX5 65 yX0_fallIfSilent) ∈ kW := List.mem_filter.mpr ⟨kt_2 (List.mem_of_getElem? (i := 116) (by rfl)), rfl⟩
theorem q_385 : (Cond.instanceMethod yX0_fallIfSilent) ∈ kW := List.mem_filter.mpr ⟨kt_2 (List.mem_of_getElem? (i := 117) (by rfl)), rfl⟩
theorem q_386 : (Cond.selects RX0 yX0_fallIfSilent yX0_fallIfSilent) ∈ kW := List.mem_filter.mpr ⟨kt_2 (List.mem_of_getElem? (i := 118) (by rfl)), rfl⟩
theorem q_387 : (Cond.code yX0_fallIfSilent cX0_fallIfSilent 1 none) ∈ kW := List.mem_filter.mpr ⟨kt_2 (List.mem_of_getElem? (i := 119) (by rfl)), rfl⟩
theorem q_388 : (Cond.methodLink RX0 111 yX0_trusts) ∈ kW := List.mem_filter.mpr ⟨kt_2 (List.mem_of_getElem? (i := 120) (by rfl)), rfl⟩
theorem q_389 : (Cond.instanceMethod yX0_trusts) ∈ kW := List.mem_filter.mpr ⟨kt_2 (List.mem_of_getElem? (i := 121) (by rfl)), rfl⟩
theorem q_390 : (Cond.selects RX0 yX0_trusts yX0_trusts) ∈ kW := List.mem_filter.mpr ⟨kt_2 (List.mem_of_getElem? (i := 122) (by rfl)), rfl⟩
theorem q_391 : (Cond.code yX0_trusts cX0_trusts 1 (some .boolean)) ∈ kW := List.mem_filter.mpr ⟨kt_2 (List.mem_of_getElem? (i := 123) (by rfl)), rfl⟩
theorem q_392 : (Cond.methodLink RX0 81 yX0_isBothUp) ∈ kW := List.mem_filter.mpr ⟨kt_2 (List.mem_of_getElem? (i := 124) (by rfl)), rfl⟩
theorem q_393 : (Cond.instanceMethod yX0_isBothUp) ∈ kW := List.mem_filter.mpr ⟨kt_2 (List.mem_of_getElem? (i := 125) (by rfl)), rfl⟩
theorem q_394 : (Cond.selects RX0 yX0_isBothUp yX0_isBothUp) ∈ kW := List.mem_filter.mpr ⟨kt_2 (List.mem_of_getElem? (i := 126) (by rfl)), rfl⟩
theorem q_395 : (Cond.code yX0_isBothUp cX0_isBothUp 1 (some .boolean)) ∈ kW := List.mem_filter.mpr ⟨kt_2 (List.mem_of_getElem? (i := 127) (by rfl)), rfl⟩
theorem q_396 : (Cond.methodLink RX0 68 yX0_limit) ∈ kW := List.mem_filter.mpr ⟨kt_2 (List.mem_of_getElem? (i := 128) (by rfl)), rfl⟩
theorem q_397 : (Cond.instanceMethod yX0_limit) ∈ kW := List.mem_filter.mpr ⟨kt_2 (List.mem_of_getElem? (i := 129) (by rfl)), rfl⟩
theorem q_398 : (Cond.selects RX0 yX0_limit yX0_limit) ∈ kW := List.mem_filter.mpr ⟨kt_2 (List.mem_of_getElem? (i := 130) (by rfl)), rfl⟩
theorem q_399 : (Cond.code yX0_limit cX0_limit 2 (some .int)) ∈ kW := List.mem_filter.mpr ⟨kt_2 (List.mem_of_getElem? (i := 131) (by rfl)), rfl⟩
theorem q_400 : (Cond.methodLink RX5 68 yX5_sendIfDue) ∈ kW := List.mem_filter.mpr ⟨kt_2 (List.mem_of_getElem? (i := 132) (by rfl)), rfl⟩
theorem q_402 : (Cond.instanceMethod yX5_sendIfDue) ∈ kW := List.mem_filter.mpr ⟨kt_2 (List.mem_of_getElem? (i := 134) (by rfl)), rfl⟩
theorem q_403 : (Cond.code yX5_sendIfDue cX5_sendIfDue 3 none) ∈ kW := List.mem_filter.mpr ⟨kt_2 (List.mem_of_getElem? (i := 135) (by rfl)), rfl⟩
theorem q_404 : (Cond.methodLink RX5 79 Lib.Math.max.name) ∈ kW := List.mem_filter.mpr ⟨kt_2 (List.mem_of_getElem? (i := 136) (by rfl)), rfl⟩
theorem q_405 : (Cond.methodLink RX5 89 yX0_isStill) ∈ kW := List.mem_filter.mpr ⟨kt_2 (List.mem_of_getElem? (i := 137) (by rfl)), rfl⟩
theorem q_406 : (Cond.instanceMethod yX0_isStill) ∈ kW := List.mem_filter.mpr ⟨kt_2 (List.mem_of_getElem? (i := 138) (by rfl)), rfl⟩
theorem q_407 : (Cond.selects RX0 yX0_isStill yX0_isStill) ∈ kW := List.mem_filter.mpr ⟨kt_2 (List.mem_of_getElem? (i := 139) (by rfl)), rfl⟩
theorem q_408 : (Cond.code yX0_isStill cX0_isStill 1 (some .boolean)) ∈ kW := List.mem_filter.mpr ⟨kt_2 (List.mem_of_getElem? (i := 140) (by rfl)), rfl⟩
theorem q_409 : (Cond.methodLink RX5 92 yX4_put) ∈ kW := List.mem_filter.mpr ⟨kt_2 (List.mem_of_getElem? (i := 141) (by rfl)), rfl⟩
theorem q_410 : (Cond.instanceMethod yX4_put) ∈ kW := List.mem_filter.mpr ⟨kt_2 (List.mem_of_getElem? (i := 142) (by rfl)), rfl⟩
theorem q_411 : (Cond.selects RX4 yX4_put yX4_put) ∈ kW := List.mem_filter.mpr ⟨kt_2 (List.mem_of_getElem? (i := 143) (by rfl)), rfl⟩
theorem q_412 : (Cond.code yX4_put cX4_put 3 none) ∈ kW := List.mem_filter.mpr ⟨kt_2 (List.mem_of_getElem? (i := 144) (by rfl)), rfl⟩
theorem q_413 : (Cond.methodLink RX4 51 yX2_describe) ∈ kW := List.mem_filter.mpr ⟨kt_2 (List.mem_of_getElem? (i := 145) (by rfl)), rfl⟩
theorem q_414 : (Cond.instanceMethod yX2_describe) ∈ kW := List.mem_filter.mpr ⟨kt_2 (List.mem_of_getElem? (i := 146) (by rfl)), rfl⟩
theorem q_415 : (Cond.selects RX2 yX2_describe yX2_describe) ∈ kW := List.mem_filter.mpr ⟨kt_2 (List.mem_of_getElem? (i := 147) (by rfl)), rfl⟩
theorem q_416 : (Cond.code yX2_describe cX2_describe 2 none) ∈ kW := List.mem_filter.mpr ⟨kt_2 (List.mem_of_getElem? (i := 148) (by rfl)), rfl⟩
theorem q_417 : (Cond.methodLink RX5 96 yX0_pace) ∈ kW := List.mem_filter.mpr ⟨kt_2 (List.mem_of_getElem? (i := 149) (by rfl)), rfl⟩
theorem q_418 : (Cond.instanceMethod yX0_pace) ∈ kW := List.mem_filter.mpr ⟨kt_2 (List.mem_of_getElem? (i := 150) (by rfl)), rfl⟩
theorem q_419 : (Cond.selects RX0 yX0_pace yX0_pace) ∈ kW := List.mem_filter.mpr ⟨kt_2 (List.mem_of_getElem? (i := 151) (by rfl)), rfl⟩
theorem q_420 : (Cond.code yX0_pace cX0_pace 1 (some .int)) ∈ kW := List.mem_filter.mpr ⟨kt_2 (List.mem_of_getElem? (i := 152) (by rfl)), rfl⟩
theorem q_421 : (Cond.methodLink RX5 72 yX5_areBothUp) ∈ kW := List.mem_filter.mpr ⟨kt_2 (List.mem_of_getElem? (i := 153) (by rfl)), rfl⟩
theorem q_422 : (Cond.instanceMethod yX5_areBothUp) ∈ kW := List.mem_filter.mpr ⟨kt_2 (List.mem_of_getElem? (i := 154) (by rfl)), rfl⟩
theorem q_423 : (Cond.selects RX5 yX5_areBothUp yX5_areBothUp) ∈ kW := List.mem_filter.mpr ⟨kt_2 (List.mem_of_getElem? (i := 155) (by rfl)), rfl⟩
theorem q_424 : (Cond.code yX5_areBothUp cX5_areBothUp 1 (some .boolean)) ∈ kW := List.mem_filter.mpr ⟨kt_2 (List.mem_of_getElem? (i := 156) (by rfl)), rfl⟩
theorem q_425 : (Cond.methodLink RL 31 yX6_end) ∈ kW := List.mem_filter.mpr ⟨kt_2 (List.mem_of_getElem? (i := 157) (by rfl)), rfl⟩
theorem q_426 : (Cond.instanceMethod yX6_end) ∈ kW := List.mem_filter.mpr ⟨kt_2 (List.mem_of_getElem? (i := 158) (by rfl)), rfl⟩
theorem q_427 : (Cond.selects RX6 yX6_end yX6_end) ∈ kW := List.mem_filter.mpr ⟨kt_2 (List.mem_of_getElem? (i := 159) (by rfl)), rfl⟩
theorem q_428 : (Cond.code yX6_end cX6_end 3 (some .int)) ∈ kW := List.mem_filter.mpr ⟨kt_2 (List.mem_of_getElem? (i := 160) (by rfl)), rfl⟩
theorem q_429 : (Cond.methodLink RX6 66 yX6_isZeroOrOne) ∈ kW := List.mem_filter.mpr ⟨kt_2 (List.mem_of_getElem? (i := 161) (by rfl)), rfl⟩
theorem q_430 : (Cond.static yX6_isZeroOrOne) ∈ kW := List.mem_filter.mpr ⟨kt_2 (List.mem_of_getElem? (i := 162) (by rfl)), rfl⟩
theorem q_431 : (Cond.code yX6_isZeroOrOne cX6_isZeroOrOne 1 (some .boolean)) ∈ kW := List.mem_filter.mpr ⟨kt_2 (List.mem_of_getElem? (i := 163) (by rfl)), rfl⟩
theorem q_432 : (Cond.methodLink RX6 70 yX6_noticedBy) ∈ kW := List.mem_filter.mpr ⟨kt_2 (List.mem_of_getElem? (i := 164) (by rfl)), rfl⟩
theorem q_434 : (Cond.instanceMethod yX6_noticedBy) ∈ kW := List.mem_filter.mpr ⟨kt_2 (List.mem_of_getElem? (i := 166) (by rfl)), rfl⟩
theorem q_435 : (Cond.code yX6_noticedBy cX6_noticedBy 4 (some .int)) ∈ kW := List.mem_filter.mpr ⟨kt_2 (List.mem_of_getElem? (i := 167) (by rfl)), rfl⟩
theorem q_436 : (Cond.methodLink RX6 139 yX5_copyFrom) ∈ kW := List.mem_filter.mpr ⟨kt_2 (List.mem_of_getElem? (i := 168) (by rfl)), rfl⟩
theorem q_437 : (Cond.instanceMethod yX5_copyFrom) ∈ kW := List.mem_filter.mpr ⟨kt_2 (List.mem_of_getElem? (i := 169) (by rfl)), rfl⟩
theorem q_438 : (Cond.selects RX5 yX5_copyFrom yX5_copyFrom) ∈ kW := List.mem_filter.mpr ⟨kt_2 (List.mem_of_getElem? (i := 170) (by rfl)), rfl⟩
theorem q_439 : (Cond.code yX5_copyFrom cX5_copyFrom 2 none) ∈ kW := List.mem_filter.mpr ⟨kt_2 (List.mem_of_getElem? (i := 171) (by rfl)), rfl⟩
theorem q_440 : (Cond.methodLink RX5 49 yX0_copyFrom) ∈ kW := List.mem_filter.mpr ⟨kt_2 (List.mem_of_getElem? (i := 172) (by rfl)), rfl⟩
theorem q_441 : (Cond.instanceMethod yX0_copyFrom) ∈ kW := List.mem_filter.mpr ⟨kt_2 (List.mem_of_getElem? (i := 173) (by rfl)), rfl⟩
theorem q_442 : (Cond.selects RX0 yX0_copyFrom yX0_copyFrom) ∈ kW := List.mem_filter.mpr ⟨kt_2 (List.mem_of_getElem? (i := 174) (by rfl)), rfl⟩
theorem q_443 : (Cond.code yX0_copyFrom cX0_copyFrom 2 none) ∈ kW := List.mem_filter.mpr ⟨kt_2 (List.mem_of_getElem? (i := 175) (by rfl)), rfl⟩
theorem q_444 : (Cond.methodLink RX5 53 yX4_copyFrom) ∈ kW := List.mem_filter.mpr ⟨kt_2 (List.mem_of_getElem? (i := 176) (by rfl)), rfl⟩
theorem q_445 : (Cond.instanceMethod yX4_copyFrom) ∈ kW := List.mem_filter.mpr ⟨kt_2 (List.mem_of_getElem? (i := 177) (by rfl)), rfl⟩
theorem q_446 : (Cond.selects RX4 yX4_copyFrom yX4_copyFrom) ∈ kW := List.mem_filter.mpr ⟨kt_2 (List.mem_of_getElem? (i := 178) (by rfl)), rfl⟩
theorem q_447 : (Cond.code yX4_copyFrom cX4_copyFrom 2 none) ∈ kW := List.mem_filter.mpr ⟨kt_2 (List.mem_of_getElem? (i := 179) (by rfl)), rfl⟩
theorem q_448 : (Cond.methodLink RX4 39 yX2_copyFrom) ∈ kW := List.mem_filter.mpr ⟨kt_2 (List.mem_of_getElem? (i := 180) (by rfl)), rfl⟩
theorem q_449 : (Cond.methodLink RX6 77 yX5_endOf) ∈ kW := List.mem_filter.mpr ⟨kt_2 (List.mem_of_getElem? (i := 181) (by rfl)), rfl⟩
theorem q_450 : (Cond.methodLink RX6 212 yX5_tick) ∈ kW := List.mem_filter.mpr ⟨kt_2 (List.mem_of_getElem? (i := 182) (by rfl)), rfl⟩
theorem q_451 : (Cond.methodLink RX6 74 yX6_enduredBy) ∈ kW := List.mem_filter.mpr ⟨kt_2 (List.mem_of_getElem? (i := 183) (by rfl)), rfl⟩
theorem q_453 : (Cond.instanceMethod yX6_enduredBy) ∈ kW := List.mem_filter.mpr ⟨kt_2 (List.mem_of_getElem? (i := 185) (by rfl)), rfl⟩
theorem q_454 : (Cond.code yX6_enduredBy cX6_enduredBy 3 (some .int)) ∈ kW := List.mem_filter.mpr ⟨kt_2 (List.mem_of_getElem? (i := 186) (by rfl)), rfl⟩
theorem q_455 : (Cond.methodLink RX6 225 yX6_endures) ∈ kW := List.mem_filter.mpr ⟨kt_2 (List.mem_of_getElem? (i := 187) (by rfl)), rfl⟩
theorem q_457 : (Cond.instanceMethod yX6_endures) ∈ kW := List.mem_filter.mpr ⟨kt_2 (List.mem_of_getElem? (i := 189) (by rfl)), rfl⟩
theorem q_458 : (Cond.code yX6_endures cX6_endures 5 (some .boolean)) ∈ kW := List.mem_filter.mpr ⟨kt_2 (List.mem_of_getElem? (i := 190) (by rfl)), rfl⟩
theorem q_459 : (Cond.methodLink RX6 229 yX5_wayTo) ∈ kW := List.mem_filter.mpr ⟨kt_2 (List.mem_of_getElem? (i := 191) (by rfl)), rfl⟩
theorem q_460 : (Cond.instanceMethod yX5_wayTo) ∈ kW := List.mem_filter.mpr ⟨kt_2 (List.mem_of_getElem? (i := 192) (by rfl)), rfl⟩
theorem q_461 : (Cond.selects RX5 yX5_wayTo yX5_wayTo) ∈ kW := List.mem_filter.mpr ⟨kt_2 (List.mem_of_getElem? (i := 193) (by rfl)), rfl⟩
theorem q_462 : (Cond.code yX5_wayTo cX5_wayTo 2 (some (.object "StillThere$Way"))) ∈ kW := List.mem_filter.mpr ⟨kt_2 (List.mem_of_getElem? (i := 194) (by rfl)), rfl⟩
theorem q_463 : (Cond.methodLink RX6 81 yX0_numberOf) ∈ kW := List.mem_filter.mpr ⟨kt_2 (List.mem_of_getElem? (i := 195) (by rfl)), rfl⟩
theorem q_464 : (Cond.instanceMethod yX0_numberOf) ∈ kW := List.mem_filter.mpr ⟨kt_2 (List.mem_of_getElem? (i := 196) (by rfl)), rfl⟩
theorem q_465 : (Cond.selects RX0 yX0_numberOf yX0_numberOf) ∈ kW := List.mem_filter.mpr ⟨kt_2 (List.mem_of_getElem? (i := 197) (by rfl)), rfl⟩
theorem q_466 : (Cond.code yX0_numberOf cX0_numberOf 2 (some .int)) ∈ kW := List.mem_filter.mpr ⟨kt_2 (List.mem_of_getElem? (i := 198) (by rfl)), rfl⟩
theorem q_467 : (Cond.methodLinkNest RX0 60 yX6_oneIf RX6) ∈ lw_tbl := kt_2 (List.mem_of_getElem? (i := 199) (by rfl))
theorem q_468 : (Cond.static yX6_oneIf) ∈ kW := List.mem_filter.mpr ⟨kt_2 (List.mem_of_getElem? (i := 200) (by rfl)), rfl⟩
theorem q_469 : (Cond.code yX6_oneIf cX6_oneIf 1 (some .int)) ∈ kW := List.mem_filter.mpr ⟨kt_2 (List.mem_of_getElem? (i := 201) (by rfl)), rfl⟩
theorem q_470 : (Cond.methodLink RX0 64 yX0_pace) ∈ kW := List.mem_filter.mpr ⟨kt_2 (List.mem_of_getElem? (i := 202) (by rfl)), rfl⟩
theorem q_471 : (Cond.methodLink RL 36 yX6_known) ∈ kW := List.mem_filter.mpr ⟨kt_2 (List.mem_of_getElem? (i := 203) (by rfl)), rfl⟩
theorem q_472 : (Cond.instanceMethod yX6_known) ∈ kW := List.mem_filter.mpr ⟨kt_2 (List.mem_of_getElem? (i := 204) (by rfl)), rfl⟩
theorem q_473 : (Cond.selects RX6 yX6_known yX6_known) ∈ kW := List.mem_filter.mpr ⟨kt_2 (List.mem_of_getElem? (i := 205) (by rfl)), rfl⟩
theorem q_474 : (Cond.code yX6_known cX6_known 3 (some .int)) ∈ kW := List.mem_filter.mpr ⟨kt_2 (List.mem_of_getElem? (i := 206) (by rfl)), rfl⟩
theorem q_475 : (Cond.methodLink RX6 90 yX2_numberOf) ∈ kW := List.mem_filter.mpr ⟨kt_2 (List.mem_of_getElem? (i := 207) (by rfl)), rfl⟩
theorem q_476 : (Cond.instanceMethod yX2_numberOf) ∈ kW := List.mem_filter.mpr ⟨kt_2 (List.mem_of_getElem? (i := 208) (by rfl)), rfl⟩
theorem q_477 : (Cond.selects RX2 yX2_numberOf yX2_numberOf) ∈ kW := List.mem_filter.mpr ⟨kt_2 (List.mem_of_getElem? (i := 209) (by rfl)), rfl⟩
theorem q_478 : (Cond.code yX2_numberOf cX2_numberOf 2 (some .int)) ∈ kW := List.mem_filter.mpr ⟨kt_2 (List.mem_of_getElem? (i := 210) (by rfl)), rfl⟩
theorem q_479 : (Cond.methodLinkNest RX2 37 yX6_oneIf RX6) ∈ lw_tbl := kt_2 (List.mem_of_getElem? (i := 211) (by rfl))
theorem q_480 : (Cond.methodLink RL 40 yX6_way) ∈ kW := List.mem_filter.mpr ⟨kt_2 (List.mem_of_getElem? (i := 212) (by rfl)), rfl⟩
theorem q_481 : (Cond.instanceMethod yX6_way) ∈ kW := List.mem_filter.mpr ⟨kt_2 (List.mem_of_getElem? (i := 213) (by rfl)), rfl⟩
theorem q_482 : (Cond.selects RX6 yX6_way yX6_way) ∈ kW := List.mem_filter.mpr ⟨kt_2 (List.mem_of_getElem? (i := 214) (by rfl)), rfl⟩
theorem q_483 : (Cond.code yX6_way cX6_way 4 (some .int)) ∈ kW := List.mem_filter.mpr ⟨kt_2 (List.mem_of_getElem? (i := 215) (by rfl)), rfl⟩
theorem q_484 : (Cond.methodLink RX6 93 yX5_wayOf) ∈ kW := List.mem_filter.mpr ⟨kt_2 (List.mem_of_getElem? (i := 216) (by rfl)), rfl⟩
theorem q_485 : (Cond.methodLink RX6 106 yX6_oneIf) ∈ kW := List.mem_filter.mpr ⟨kt_2 (List.mem_of_getElem? (i := 217) (by rfl)), rfl⟩
theorem q_486 : (Cond.methodLink RL 44 yX6_pass) ∈ kW := List.mem_filter.mpr ⟨kt_2 (List.mem_of_getElem? (i := 218) (by rfl)), rfl⟩
theorem q_487 : (Cond.instanceMethod yX6_pass) ∈ kW := List.mem_filter.mpr ⟨kt_2 (List.mem_of_getElem? (i := 219) (by rfl)), rfl⟩
theorem q_488 : (Cond.selects RX6 yX6_pass yX6_pass) ∈ kW := List.mem_filter.mpr ⟨kt_2 (List.mem_of_getElem? (i := 220) (by rfl)), rfl⟩
theorem q_489 : (Cond.code yX6_pass cX6_pass 2 (some .int)) ∈ kW := List.mem_filter.mpr ⟨kt_2 (List.mem_of_getElem? (i := 221) (by rfl)), rfl⟩
theorem q_490 : (Cond.methodLink RX6 110 yX6_remember) ∈ kW := List.mem_filter.mpr ⟨kt_2 (List.mem_of_getElem? (i := 222) (by rfl)), rfl⟩
theorem q_492 : (Cond.instanceMethod yX6_remember) ∈ kW := List.mem_filter.mpr ⟨kt_2 (List.mem_of_getElem? (i := 224) (by rfl)), rfl⟩
theorem q_493 : (Cond.code yX6_remember cX6_remember 1 none) ∈ kW := List.mem_filter.mpr ⟨kt_2 (List.mem_of_getElem? (i := 225) (by rfl)), rfl⟩
theorem q_494 : (Cond.methodLink RX6 215 yX6_forgetFirstAct) ∈ kW := List.mem_filter.mpr ⟨kt_2 (List.mem_of_getElem? (i := 226) (by rfl)), rfl⟩
theorem q_496 : (Cond.instanceMethod yX6_forgetFirstAct) ∈ kW := List.mem_filter.mpr ⟨kt_2 (List.mem_of_getElem? (i := 228) (by rfl)), rfl⟩
theorem q_497 : (Cond.code yX6_forgetFirstAct cX6_forgetFirstAct 3 none) ∈ kW := List.mem_filter.mpr ⟨kt_2 (List.mem_of_getElem? (i := 229) (by rfl)), rfl⟩
theorem q_498 : (Cond.methodLink RX6 113 yX5_run) ∈ kW := List.mem_filter.mpr ⟨kt_2 (List.mem_of_getElem? (i := 230) (by rfl)), rfl⟩
theorem q_499 : (Cond.methodLink RL 48 yX6_tell) ∈ kW := List.mem_filter.mpr ⟨kt_2 (List.mem_of_getElem? (i := 231) (by rfl)), rfl⟩
theorem q_500 : (Cond.instanceMethod yX6_tell) ∈ kW := List.mem_filter.mpr ⟨kt_2 (List.mem_of_getElem? (i := 232) (by rfl)), rfl⟩
theorem q_501 : (Cond.selects RX6 yX6_tell yX6_tell) ∈ kW := List.mem_filter.mpr ⟨kt_2 (List.mem_of_getElem? (i := 233) (by rfl)), rfl⟩
theorem q_502 : (Cond.code yX6_tell cX6_tell 6 (some .int)) ∈ kW := List.mem_filter.mpr ⟨kt_2 (List.mem_of_getElem? (i := 234) (by rfl)), rfl⟩
theorem q_503 : (Cond.methodLink RX6 116 yX0_takeSetting) ∈ kW := List.mem_filter.mpr ⟨kt_2 (List.mem_of_getElem? (i := 235) (by rfl)), rfl⟩
theorem q_504 : (Cond.methodLink RL 53 yX6_demand) ∈ kW := List.mem_filter.mpr ⟨kt_2 (List.mem_of_getElem? (i := 236) (by rfl)), rfl⟩
theorem q_505 : (Cond.instanceMethod yX6_demand) ∈ kW := List.mem_filter.mpr ⟨kt_2 (List.mem_of_getElem? (i := 237) (by rfl)), rfl⟩
theorem q_506 : (Cond.selects RX6 yX6_demand yX6_demand) ∈ kW := List.mem_filter.mpr ⟨kt_2 (List.mem_of_getElem? (i := 238) (by rfl)), rfl⟩
theorem q_507 : (Cond.code yX6_demand cX6_demand 3 (some .int)) ∈ kW := List.mem_filter.mpr ⟨kt_2 (List.mem_of_getElem? (i := 239) (by rfl)), rfl⟩
theorem q_508 : (Cond.methodLink RX6 120 yX0_turnDemand) ∈ kW := List.mem_filter.mpr ⟨kt_3 (List.mem_of_getElem? (i := 0) (by rfl)), rfl⟩
theorem q_509 : (Cond.methodLink RL 57 yX6_turn) ∈ kW := List.mem_filter.mpr ⟨kt_3 (List.mem_of_getElem? (i := 1) (by rfl)), rfl⟩
theorem q_510 : (Cond.instanceMethod yX6_turn) ∈ kW := List.mem_filter.mpr ⟨kt_3 (List.mem_of_getElem? (i := 2) (by rfl)), rfl⟩
theorem q_511 : (Cond.selects RX6 yX6_turn yX6_turn) ∈ kW := List.mem_filter.mpr ⟨kt_3 (List.mem_of_getElem? (i := 3) (by rfl)), rfl⟩
theorem q_512 : (Cond.code yX6_turn cX6_turn 3 (some .int)) ∈ kW := List.mem_filter.mpr ⟨kt_3 (List.mem_of_getElem? (i := 4) (by rfl)), rfl⟩
theorem q_513 : (Cond.methodLink RX6 126 yX4_turnOver) ∈ kW := List.mem_filter.mpr ⟨kt_3 (List.mem_of_getElem? (i := 5) (by rfl)), rfl⟩
theorem q_514 : (Cond.methodLink RL 61 yX6_poll) ∈ kW := List.mem_filter.mpr ⟨kt_3 (List.mem_of_getElem? (i := 6) (by rfl)), rfl⟩
theorem q_515 : (Cond.instanceMethod yX6_poll) ∈ kW := List.mem_filter.mpr ⟨kt_3 (List.mem_of_getElem? (i := 7) (by rfl)), rfl⟩
theorem q_516 : (Cond.selects RX6 yX6_poll yX6_poll) ∈ kW := List.mem_filter.mpr ⟨kt_3 (List.mem_of_getElem? (i := 8) (by rfl)), rfl⟩
theorem q_517 : (Cond.code yX6_poll cX6_poll 3 (some .int)) ∈ kW := List.mem_filter.mpr ⟨kt_3 (List.mem_of_getElem? (i := 9) (by rfl)), rfl⟩
theorem q_518 : (Cond.methodLink RX6 129 yX0_canBePolled) ∈ kW := List.mem_filter.mpr ⟨kt_3 (List.mem_of_getElem? (i := 10) (by rfl)), rfl⟩
theorem q_519 : (Cond.instanceMethod yX0_canBePolled) ∈ kW := List.mem_filter.mpr ⟨kt_3 (List.mem_of_getElem? (i := 11) (by rfl)), rfl⟩
theorem q_520 : (Cond.selects RX0 yX0_canBePolled yX0_canBePolled) ∈ kW := List.mem_filter.mpr ⟨kt_3 (List.mem_of_getElem? (i := 12) (by rfl)), rfl⟩
theorem q_521 : (Cond.code yX0_canBePolled cX0_canBePolled 1 (some .boolean)) ∈ kW := List.mem_filter.mpr ⟨kt_3 (List.mem_of_getElem? (i := 13) (by rfl)), rfl⟩
theorem q_522 : (Cond.methodLink RX6 133 yX0_startPoll) ∈ kW := List.mem_filter.mpr ⟨kt_3 (List.mem_of_getElem? (i := 14) (by rfl)), rfl⟩
theorem q_523 : (Cond.instanceMethod yX0_startPoll) ∈ kW := List.mem_filter.mpr ⟨kt_3 (List.mem_of_getElem? (i := 15) (by rfl)), rfl⟩
theorem q_524 : (Cond.selects RX0 yX0_startPoll yX0_startPoll) ∈ kW := List.mem_filter.mpr ⟨kt_3 (List.mem_of_getElem? (i := 16) (by rfl)), rfl⟩
theorem q_525 : (Cond.code yX0_startPoll cX0_startPoll 1 none) ∈ kW := List.mem_filter.mpr ⟨kt_3 (List.mem_of_getElem? (i := 17) (by rfl)), rfl⟩
theorem q_526 : (Cond.methodLink RX6 136 yX0_limit) ∈ kW := List.mem_filter.mpr ⟨kt_3 (List.mem_of_getElem? (i := 18) (by rfl)), rfl⟩
theorem q_527 : (Cond.methodLink RL 65 yX6_undo) ∈ kW := List.mem_filter.mpr ⟨kt_3 (List.mem_of_getElem? (i := 19) (by rfl)), rfl⟩
theorem q_528 : (Cond.instanceMethod yX6_undo) ∈ kW := List.mem_filter.mpr ⟨kt_3 (List.mem_of_getElem? (i := 20) (by rfl)), rfl⟩
theorem q_529 : (Cond.selects RX6 yX6_undo yX6_undo) ∈ kW := List.mem_filter.mpr ⟨kt_3 (List.mem_of_getElem? (i := 21) (by rfl)), rfl⟩
theorem q_530 : (Cond.code yX6_undo cX6_undo 1 (some .int)) ∈ kW := List.mem_filter.mpr ⟨kt_3 (List.mem_of_getElem? (i := 22) (by rfl)), rfl⟩
theorem q_531 : (Cond.methodLink RL 69 yX6_ahead) ∈ kW := List.mem_filter.mpr ⟨kt_3 (List.mem_of_getElem? (i := 23) (by rfl)), rfl⟩
theorem q_532 : (Cond.instanceMethod yX6_ahead) ∈ kW := List.mem_filter.mpr ⟨kt_3 (List.mem_of_getElem? (i := 24) (by rfl)), rfl⟩
theorem q_533 : (Cond.selects RX6 yX6_ahead yX6_ahead) ∈ kW := List.mem_filter.mpr ⟨kt_3 (List.mem_of_getElem? (i := 25) (by rfl)), rfl⟩
theorem q_534 : (Cond.code yX6_ahead cX6_ahead 3 (some .int)) ∈ kW := List.mem_filter.mpr ⟨kt_3 (List.mem_of_getElem? (i := 26) (by rfl)), rfl⟩
theorem q_535 : (Cond.methodLink RL 73 yX6_letters) ∈ kW := List.mem_filter.mpr ⟨kt_3 (List.mem_of_getElem? (i := 27) (by rfl)), rfl⟩
theorem q_536 : (Cond.instanceMethod yX6_letters) ∈ kW := List.mem_filter.mpr ⟨kt_3 (List.mem_of_getElem? (i := 28) (by rfl)), rfl⟩
theorem q_537 : (Cond.selects RX6 yX6_letters yX6_letters) ∈ kW := List.mem_filter.mpr ⟨kt_3 (List.mem_of_getElem? (i := 29) (by rfl)), rfl⟩
theorem q_538 : (Cond.code yX6_letters cX6_letters 2 (some .int)) ∈ kW := List.mem_filter.mpr ⟨kt_3 (List.mem_of_getElem? (i := 30) (by rfl)), rfl⟩
theorem q_539 : (Cond.methodLink RL 79 yX6_judge) ∈ kW := List.mem_filter.mpr ⟨kt_3 (List.mem_of_getElem? (i := 31) (by rfl)), rfl⟩
theorem q_540 : (Cond.instanceMethod yX6_judge) ∈ kW := List.mem_filter.mpr ⟨kt_3 (List.mem_of_getElem? (i := 32) (by rfl)), rfl⟩
theorem q_541 : (Cond.selects RX6 yX6_judge yX6_judge) ∈ kW := List.mem_filter.mpr ⟨kt_3 (List.mem_of_getElem? (i := 33) (by rfl)), rfl⟩
theorem q_542 : (Cond.code yX6_judge cX6_judge 6 (some .int)) ∈ kW := List.mem_filter.mpr ⟨kt_3 (List.mem_of_getElem? (i := 34) (by rfl)), rfl⟩
theorem q_543 : (Cond.methodLink RX6 158 yX6_withoutLast) ∈ kW := List.mem_filter.mpr ⟨kt_3 (List.mem_of_getElem? (i := 35) (by rfl)), rfl⟩
theorem q_544 : (Cond.static yX6_withoutLast) ∈ kW := List.mem_filter.mpr ⟨kt_3 (List.mem_of_getElem? (i := 36) (by rfl)), rfl⟩
theorem q_545 : (Cond.code yX6_withoutLast cX6_withoutLast 6 (some .long)) ∈ kW := List.mem_filter.mpr ⟨kt_3 (List.mem_of_getElem? (i := 37) (by rfl)), rfl⟩
theorem q_546 : (Cond.constantLong RX6 162 1000) ∈ kW := List.mem_filter.mpr ⟨kt_3 (List.mem_of_getElem? (i := 38) (by rfl)), rfl⟩
theorem q_547 : (Cond.methodLink RX6 164 yX6_canBe) ∈ kW := List.mem_filter.mpr ⟨kt_3 (List.mem_of_getElem? (i := 39) (by rfl)), rfl⟩
theorem q_549 : (Cond.instanceMethod yX6_canBe) ∈ kW := List.mem_filter.mpr ⟨kt_3 (List.mem_of_getElem? (i := 41) (by rfl)), rfl⟩
theorem q_550 : (Cond.code yX6_canBe cX6_canBe 6 (some .boolean)) ∈ kW := List.mem_filter.mpr ⟨kt_3 (List.mem_of_getElem? (i := 42) (by rfl)), rfl⟩
theorem q_551 : (Cond.methodLink RX6 235 yX6_canBeDone) ∈ kW := List.mem_filter.mpr ⟨kt_3 (List.mem_of_getElem? (i := 43) (by rfl)), rfl⟩
theorem q_553 : (Cond.instanceMethod yX6_canBeDone) ∈ kW := List.mem_filter.mpr ⟨kt_3 (List.mem_of_getElem? (i := 45) (by rfl)), rfl⟩
theorem q_554 : (Cond.code yX6_canBeDone cX6_canBeDone 4 (some .boolean)) ∈ kW := List.mem_filter.mpr ⟨kt_3 (List.mem_of_getElem? (i := 46) (by rfl)), rfl⟩
theorem q_555 : (Cond.methodLink RX6 238 yX6_isSo) ∈ kW := List.mem_filter.mpr ⟨kt_3 (List.mem_of_getElem? (i := 47) (by rfl)), rfl⟩
theorem q_556 : (Cond.static yX6_isSo) ∈ kW := List.mem_filter.mpr ⟨kt_3 (List.mem_of_getElem? (i := 48) (by rfl)), rfl⟩
theorem q_557 : (Cond.code yX6_isSo cX6_isSo 3 (some .boolean)) ∈ kW := List.mem_filter.mpr ⟨kt_3 (List.mem_of_getElem? (i := 49) (by rfl)), rfl⟩
theorem q_558 : (Cond.methodLink RX6 245 yX0_pace) ∈ kW := List.mem_filter.mpr ⟨kt_3 (List.mem_of_getElem? (i := 50) (by rfl)), rfl⟩
theorem q_559 : (Cond.methodLink RL 84 yX6_see) ∈ kW := List.mem_filter.mpr ⟨kt_3 (List.mem_of_getElem? (i := 51) (by rfl)), rfl⟩
theorem q_560 : (Cond.instanceMethod yX6_see) ∈ kW := List.mem_filter.mpr ⟨kt_3 (List.mem_of_getElem? (i := 52) (by rfl)), rfl⟩
theorem q_561 : (Cond.selects RX6 yX6_see yX6_see) ∈ kW := List.mem_filter.mpr ⟨kt_3 (List.mem_of_getElem? (i := 53) (by rfl)), rfl⟩
theorem q_562 : (Cond.code yX6_see cX6_see 4 (some .int)) ∈ kW := List.mem_filter.mpr ⟨kt_3 (List.mem_of_getElem? (i := 54) (by rfl)), rfl⟩
theorem q_563 : (Cond.methodLink RX6 170 yX1_add) ∈ kW := List.mem_filter.mpr ⟨kt_3 (List.mem_of_getElem? (i := 55) (by rfl)), rfl⟩
theorem q_564 : (Cond.instanceMethod yX1_add) ∈ kW := List.mem_filter.mpr ⟨kt_3 (List.mem_of_getElem? (i := 56) (by rfl)), rfl⟩
theorem q_565 : (Cond.selects RX1 yX1_add yX1_add) ∈ kW := List.mem_filter.mpr ⟨kt_3 (List.mem_of_getElem? (i := 57) (by rfl)), rfl⟩
theorem q_566 : (Cond.code yX1_add cX1_add 4 none) ∈ kW := List.mem_filter.mpr ⟨kt_3 (List.mem_of_getElem? (i := 58) (by rfl)), rfl⟩
theorem q_567 : (Cond.methodLink RL 88 yX6_unsee) ∈ kW := List.mem_filter.mpr ⟨kt_3 (List.mem_of_getElem? (i := 59) (by rfl)), rfl⟩
theorem q_568 : (Cond.instanceMethod yX6_unsee) ∈ kW := List.mem_filter.mpr ⟨kt_3 (List.mem_of_getElem? (i := 60) (by rfl)), rfl⟩
theorem q_569 : (Cond.selects RX6 yX6_unsee yX6_unsee) ∈ kW := List.mem_filter.mpr ⟨kt_3 (List.mem_of_getElem? (i := 61) (by rfl)), rfl⟩
theorem q_570 : (Cond.code yX6_unsee cX6_unsee 2 (some .int)) ∈ kW := List.mem_filter.mpr ⟨kt_3 (List.mem_of_getElem? (i := 62) (by rfl)), rfl⟩
theorem q_571 : (Cond.methodLink RL 92 yX6_which) ∈ kW := List.mem_filter.mpr ⟨kt_3 (List.mem_of_getElem? (i := 63) (by rfl)), rfl⟩
theorem q_572 : (Cond.instanceMethod yX6_which) ∈ kW := List.mem_filter.mpr ⟨kt_3 (List.mem_of_getElem? (i := 64) (by rfl)), rfl⟩
theorem q_573 : (Cond.selects RX6 yX6_which yX6_which) ∈ kW := List.mem_filter.mpr ⟨kt_3 (List.mem_of_getElem? (i := 65) (by rfl)), rfl⟩
theorem q_574 : (Cond.code yX6_which cX6_which 3 (some .int)) ∈ kW := List.mem_filter.mpr ⟨kt_3 (List.mem_of_getElem? (i := 66) (by rfl)), rfl⟩
theorem q_575 : (Cond.methodLink RX6 179 yX1_holdIn) ∈ kW := List.mem_filter.mpr ⟨kt_3 (List.mem_of_getElem? (i := 67) (by rfl)), rfl⟩
theorem q_576 : (Cond.instanceMethod yX1_holdIn) ∈ kW := List.mem_filter.mpr ⟨kt_3 (List.mem_of_getElem? (i := 68) (by rfl)), rfl⟩
theorem q_577 : (Cond.selects RX1 yX1_holdIn yX1_holdIn) ∈ kW := List.mem_filter.mpr ⟨kt_3 (List.mem_of_getElem? (i := 69) (by rfl)), rfl⟩
theorem q_578 : (Cond.code yX1_holdIn cX1_holdIn 4 (some .boolean)) ∈ kW := List.mem_filter.mpr ⟨kt_3 (List.mem_of_getElem? (i := 70) (by rfl)), rfl⟩
theorem q_579 : (Cond.methodLink RX1 25 yX1_lastTick) ∈ kW := List.mem_filter.mpr ⟨kt_3 (List.mem_of_getElem? (i := 71) (by rfl)), rfl⟩
theorem q_581 : (Cond.instanceMethod yX1_lastTick) ∈ kW := List.mem_filter.mpr ⟨kt_3 (List.mem_of_getElem? (i := 73) (by rfl)), rfl⟩
theorem q_582 : (Cond.code yX1_lastTick cX1_lastTick 3 (some .int)) ∈ kW := List.mem_filter.mpr ⟨kt_3 (List.mem_of_getElem? (i := 74) (by rfl)), rfl⟩
theorem q_583 : (Cond.methodLink RX1 38 Lib.Math.max.name) ∈ kW := List.mem_filter.mpr ⟨kt_3 (List.mem_of_getElem? (i := 75) (by rfl)), rfl⟩
theorem q_584 : (Cond.methodLink RX1 29 yX1_holdAt) ∈ kW := List.mem_filter.mpr ⟨kt_3 (List.mem_of_getElem? (i := 76) (by rfl)), rfl⟩
theorem q_586 : (Cond.instanceMethod yX1_holdAt) ∈ kW := List.mem_filter.mpr ⟨kt_3 (List.mem_of_getElem? (i := 78) (by rfl)), rfl⟩
theorem q_587 : (Cond.code yX1_holdAt cX1_holdAt 4 (some .boolean)) ∈ kW := List.mem_filter.mpr ⟨kt_3 (List.mem_of_getElem? (i := 79) (by rfl)), rfl⟩
theorem q_588 : (Cond.methodLink RX1 44 yX5_endOf) ∈ kW := List.mem_filter.mpr ⟨kt_3 (List.mem_of_getElem? (i := 80) (by rfl)), rfl⟩
theorem q_589 : (Cond.methodLink RX1 33 yX5_tick) ∈ kW := List.mem_filter.mpr ⟨kt_3 (List.mem_of_getElem? (i := 81) (by rfl)), rfl⟩
theorem q_590 : (Cond.methodLink RL 96 yX6_share) ∈ kW := List.mem_filter.mpr ⟨kt_3 (List.mem_of_getElem? (i := 82) (by rfl)), rfl⟩
theorem q_591 : (Cond.instanceMethod yX6_share) ∈ kW := List.mem_filter.mpr ⟨kt_3 (List.mem_of_getElem? (i := 83) (by rfl)), rfl⟩
theorem q_592 : (Cond.selects RX6 yX6_share yX6_share) ∈ kW := List.mem_filter.mpr ⟨kt_3 (List.mem_of_getElem? (i := 84) (by rfl)), rfl⟩
theorem q_593 : (Cond.code yX6_share cX6_share 6 (some .int)) ∈ kW := List.mem_filter.mpr ⟨kt_3 (List.mem_of_getElem? (i := 85) (by rfl)), rfl⟩
theorem q_594 : (Cond.methodLink RX6 183 yX6_ordersBehind) ∈ kW := List.mem_filter.mpr ⟨kt_3 (List.mem_of_getElem? (i := 86) (by rfl)), rfl⟩
theorem q_595 : (Cond.static yX6_ordersBehind) ∈ kW := List.mem_filter.mpr ⟨kt_3 (List.mem_of_getElem? (i := 87) (by rfl)), rfl⟩
theorem q_596 : (Cond.code yX6_ordersBehind cX6_ordersBehind 2 (some .int)) ∈ kW := List.mem_filter.mpr ⟨kt_3 (List.mem_of_getElem? (i := 88) (by rfl)), rfl⟩
theorem q_597 : (Cond.methodLink RX6 248 yJ6_bitCount_0f7a4) ∈ kW := List.mem_filter.mpr ⟨kt_3 (List.mem_of_getElem? (i := 89) (by rfl)), rfl⟩
theorem q_598 : (Cond.static yJ6_bitCount_0f7a4) ∈ kW := List.mem_filter.mpr ⟨kt_3 (List.mem_of_getElem? (i := 90) (by rfl)), rfl⟩
theorem q_599 : (Cond.code yJ6_bitCount_0f7a4 cJ6_bitCount_0f7a4 1 (some .int)) ∈ kW := List.mem_filter.mpr ⟨kt_3 (List.mem_of_getElem? (i := 91) (by rfl)), rfl⟩
theorem q_600 : (Cond.constant RJ6 265 1431655765) ∈ kW := List.mem_filter.mpr ⟨kt_3 (List.mem_of_getElem? (i := 92) (by rfl)), rfl⟩
theorem q_601 : (Cond.constant RJ6 266 858993459) ∈ kW := List.mem_filter.mpr ⟨kt_3 (List.mem_of_getElem? (i := 93) (by rfl)), rfl⟩
theorem q_602 : (Cond.constant RJ6 267 252645135) ∈ kW := List.mem_filter.mpr ⟨kt_3 (List.mem_of_getElem? (i := 94) (by rfl)), rfl⟩
theorem q_603 : (Cond.methodLink RX6 186 yX6_sentWith) ∈ kW := List.mem_filter.mpr ⟨kt_3 (List.mem_of_getElem? (i := 95) (by rfl)), rfl⟩
theorem q_605 : (Cond.instanceMethod yX6_sentWith) ∈ kW := List.mem_filter.mpr ⟨kt_3 (List.mem_of_getElem? (i := 97) (by rfl)), rfl⟩
theorem q_606 : (Cond.code yX6_sentWith cX6_sentWith 2 (some .int)) ∈ kW := List.mem_filter.mpr ⟨kt_3 (List.mem_of_getElem? (i := 98) (by rfl)), rfl⟩
theorem q_607 : (Cond.methodLink RX6 253 yX0_leaveOnly) ∈ kW := List.mem_filter.mpr ⟨kt_3 (List.mem_of_getElem? (i := 99) (by rfl)), rfl⟩
theorem q_608 : (Cond.instanceMethod yX0_leaveOnly) ∈ kW := List.mem_filter.mpr ⟨kt_3 (List.mem_of_getElem? (i := 100) (by rfl)), rfl⟩
theorem q_609 : (Cond.selects RX0 yX0_leaveOnly yX0_leaveOnly) ∈ kW := List.mem_filter.mpr ⟨kt_3 (List.mem_of_getElem? (i := 101) (by rfl)), rfl⟩
theorem q_610 : (Cond.code yX0_leaveOnly cX0_leaveOnly 3 none) ∈ kW := List.mem_filter.mpr ⟨kt_3 (List.mem_of_getElem? (i := 102) (by rfl)), rfl⟩
theorem q_611 : (Cond.methodLink RX6 189 yX6_fraction) ∈ kW := List.mem_filter.mpr ⟨kt_3 (List.mem_of_getElem? (i := 103) (by rfl)), rfl⟩
theorem q_612 : (Cond.static yX6_fraction) ∈ kW := List.mem_filter.mpr ⟨kt_3 (List.mem_of_getElem? (i := 104) (by rfl)), rfl⟩
theorem q_613 : (Cond.code yX6_fraction cX6_fraction 4 (some .int)) ∈ kW := List.mem_filter.mpr ⟨kt_3 (List.mem_of_getElem? (i := 105) (by rfl)), rfl⟩
theorem q_614 : (Cond.methodLink RX6 263 Lib.Math.abs.name) ∈ kW := List.mem_filter.mpr ⟨kt_3 (List.mem_of_getElem? (i := 106) (by rfl)), rfl⟩
theorem q_615 : (Cond.static Lib.Math.abs.name) ∈ kW := List.mem_filter.mpr ⟨kt_3 (List.mem_of_getElem? (i := 107) (by rfl)), rfl⟩
theorem q_616 : (Cond.code Lib.Math.abs.name Lib.Math.abs.code 1 (some .int)) ∈ kW := List.mem_filter.mpr ⟨kt_3 (List.mem_of_getElem? (i := 108) (by rfl)), rfl⟩
theorem q_617 : (Cond.methodLink RX6 268 yX6_greatestDivisor) ∈ kW := List.mem_filter.mpr ⟨kt_3 (List.mem_of_getElem? (i := 109) (by rfl)), rfl⟩
theorem q_618 : (Cond.static yX6_greatestDivisor) ∈ kW := List.mem_filter.mpr ⟨kt_3 (List.mem_of_getElem? (i := 110) (by rfl)), rfl⟩
theorem q_619 : (Cond.code yX6_greatestDivisor cX6_greatestDivisor 6 (some .int)) ∈ kW := List.mem_filter.mpr ⟨kt_3 (List.mem_of_getElem? (i := 111) (by rfl)), rfl⟩
theorem q_620 : (Cond.methodLink RL 101 yX6_luck) ∈ kW := List.mem_filter.mpr ⟨kt_3 (List.mem_of_getElem? (i := 112) (by rfl)), rfl⟩
theorem q_621 : (Cond.instanceMethod yX6_luck) ∈ kW := List.mem_filter.mpr ⟨kt_3 (List.mem_of_getElem? (i := 113) (by rfl)), rfl⟩
theorem q_622 : (Cond.selects RX6 yX6_luck yX6_luck) ∈ kW := List.mem_filter.mpr ⟨kt_3 (List.mem_of_getElem? (i := 114) (by rfl)), rfl⟩
theorem q_623 : (Cond.code yX6_luck cX6_luck 7 (some .int)) ∈ kW := List.mem_filter.mpr ⟨kt_3 (List.mem_of_getElem? (i := 115) (by rfl)), rfl⟩
theorem q_624 : (Cond.methodLink RX6 193 yX6_weightOf) ∈ kW := List.mem_filter.mpr ⟨kt_3 (List.mem_of_getElem? (i := 116) (by rfl)), rfl⟩
theorem q_625 : (Cond.static yX6_weightOf) ∈ kW := List.mem_filter.mpr ⟨kt_3 (List.mem_of_getElem? (i := 117) (by rfl)), rfl⟩
theorem q_626 : (Cond.code yX6_weightOf cX6_weightOf 4 (some .int)) ∈ kW := List.mem_filter.mpr ⟨kt_3 (List.mem_of_getElem? (i := 118) (by rfl)), rfl⟩
theorem q_627 : (Cond.methodLink RX6 200 yX6_power) ∈ kW := List.mem_filter.mpr ⟨kt_3 (List.mem_of_getElem? (i := 119) (by rfl)), rfl⟩
theorem q_628 : (Cond.static yX6_power) ∈ kW := List.mem_filter.mpr ⟨kt_3 (List.mem_of_getElem? (i := 120) (by rfl)), rfl⟩
theorem q_629 : (Cond.code yX6_power cX6_power 4 (some .int)) ∈ kW := List.mem_filter.mpr ⟨kt_3 (List.mem_of_getElem? (i := 121) (by rfl)), rfl⟩
theorem q_630 : (Cond.methodLink RX6 197 yX6_areUpWithLost) ∈ kW := List.mem_filter.mpr ⟨kt_3 (List.mem_of_getElem? (i := 122) (by rfl)), rfl⟩
theorem q_632 : (Cond.instanceMethod yX6_areUpWithLost) ∈ kW := List.mem_filter.mpr ⟨kt_3 (List.mem_of_getElem? (i := 124) (by rfl)), rfl⟩
theorem q_633 : (Cond.code yX6_areUpWithLost cX6_areUpWithLost 2 (some .boolean)) ∈ kW := List.mem_filter.mpr ⟨kt_3 (List.mem_of_getElem? (i := 125) (by rfl)), rfl⟩
theorem q_634 : (Cond.methodLink RX6 260 yX5_areBothUp) ∈ kW := List.mem_filter.mpr ⟨kt_3 (List.mem_of_getElem? (i := 126) (by rfl)), rfl⟩
theorem q_635 : (Cond.methodLink RL 106 yX6_seed) ∈ kW := List.mem_filter.mpr ⟨kt_3 (List.mem_of_getElem? (i := 127) (by rfl)), rfl⟩
theorem q_636 : (Cond.instanceMethod yX6_seed) ∈ kW := List.mem_filter.mpr ⟨kt_3 (List.mem_of_getElem? (i := 128) (by rfl)), rfl⟩
theorem q_637 : (Cond.selects RX6 yX6_seed yX6_seed) ∈ kW := List.mem_filter.mpr ⟨kt_3 (List.mem_of_getElem? (i := 129) (by rfl)), rfl⟩
theorem q_638 : (Cond.code yX6_seed cX6_seed 5 (some .long)) ∈ kW := List.mem_filter.mpr ⟨kt_3 (List.mem_of_getElem? (i := 130) (by rfl)), rfl⟩
theorem q_639 : (Cond.methodLink RL 111 yX6_drawn) ∈ kW := List.mem_filter.mpr ⟨kt_3 (List.mem_of_getElem? (i := 131) (by rfl)), rfl⟩
theorem q_640 : (Cond.instanceMethod yX6_drawn) ∈ kW := List.mem_filter.mpr ⟨kt_3 (List.mem_of_getElem? (i := 132) (by rfl)), rfl⟩
theorem q_641 : (Cond.selects RX6 yX6_drawn yX6_drawn) ∈ kW := List.mem_filter.mpr ⟨kt_3 (List.mem_of_getElem? (i := 133) (by rfl)), rfl⟩
theorem q_642 : (Cond.code yX6_drawn cX6_drawn 4 (some .int)) ∈ kW := List.mem_filter.mpr ⟨kt_3 (List.mem_of_getElem? (i := 134) (by rfl)), rfl⟩
theorem q_643 : (Cond.constantLong RX6 208 6364136223846793005) ∈ kW := List.mem_filter.mpr ⟨kt_3 (List.mem_of_getElem? (i := 135) (by rfl)), rfl⟩
theorem q_644 : (Cond.constantLong RX6 210 1442695040888963407) ∈ kW := List.mem_filter.mpr ⟨kt_3 (List.mem_of_getElem? (i := 136) (by rfl)), rfl⟩
theorem q_645 : (Cond.methodLink RL 115 yX6_keep) ∈ kW := List.mem_filter.mpr ⟨kt_3 (List.mem_of_getElem? (i := 137) (by rfl)), rfl⟩
theorem q_646 : (Cond.instanceMethod yX6_keep) ∈ kW := List.mem_filter.mpr ⟨kt_3 (List.mem_of_getElem? (i := 138) (by rfl)), rfl⟩
theorem q_647 : (Cond.selects RX6 yX6_keep yX6_keep) ∈ kW := List.mem_filter.mpr ⟨kt_3 (List.mem_of_getElem? (i := 139) (by rfl)), rfl⟩
theorem q_648 : (Cond.code yX6_keep cX6_keep 2 (some .int)) ∈ kW := List.mem_filter.mpr ⟨kt_3 (List.mem_of_getElem? (i := 140) (by rfl)), rfl⟩
theorem q_649 : (Cond.methodLink RL 119 yX6_again) ∈ kW := List.mem_filter.mpr ⟨kt_3 (List.mem_of_getElem? (i := 141) (by rfl)), rfl⟩
theorem q_650 : (Cond.instanceMethod yX6_again) ∈ kW := List.mem_filter.mpr ⟨kt_3 (List.mem_of_getElem? (i := 142) (by rfl)), rfl⟩
theorem q_651 : (Cond.selects RX6 yX6_again yX6_again) ∈ kW := List.mem_filter.mpr ⟨kt_3 (List.mem_of_getElem? (i := 143) (by rfl)), rfl⟩
theorem q_652 : (Cond.code yX6_again cX6_again 2 (some .int)) ∈ kW := List.mem_filter.mpr ⟨kt_3 (List.mem_of_getElem? (i := 144) (by rfl)), rfl⟩
theorem q_653 : (Cond.methodLink RL 123 yX6_count) ∈ kW := List.mem_filter.mpr ⟨kt_3 (List.mem_of_getElem? (i := 145) (by rfl)), rfl⟩
theorem q_654 : (Cond.instanceMethod yX6_count) ∈ kW := List.mem_filter.mpr ⟨kt_3 (List.mem_of_getElem? (i := 146) (by rfl)), rfl⟩
theorem q_655 : (Cond.selects RX6 yX6_count yX6_count) ∈ kW := List.mem_filter.mpr ⟨kt_3 (List.mem_of_getElem? (i := 147) (by rfl)), rfl⟩
theorem q_656 : (Cond.code yX6_count cX6_count 2 (some .int)) ∈ kW := List.mem_filter.mpr ⟨kt_3 (List.mem_of_getElem? (i := 148) (by rfl)), rfl⟩
theorem q_657 : (Cond.classLink RL 10 RX7) ∈ kW := List.mem_filter.mpr ⟨kt_3 (List.mem_of_getElem? (i := 149) (by rfl)), rfl⟩
theorem q_658 : (Cond.instantiable RX7 22) ∈ kW := List.mem_filter.mpr ⟨kt_3 (List.mem_of_getElem? (i := 150) (by rfl)), rfl⟩
theorem q_659 : (Cond.methodLink RL 12 yX7_init) ∈ kW := List.mem_filter.mpr ⟨kt_3 (List.mem_of_getElem? (i := 151) (by rfl)), rfl⟩
theorem q_660 : (Cond.instanceMethod yX7_init) ∈ kW := List.mem_filter.mpr ⟨kt_3 (List.mem_of_getElem? (i := 152) (by rfl)), rfl⟩
theorem q_661 : (Cond.code yX7_init cX7_init 1 none) ∈ kW := List.mem_filter.mpr ⟨kt_3 (List.mem_of_getElem? (i := 153) (by rfl)), rfl⟩
theorem q_662 : (Cond.methodLink RX7 1 objectInit) ∈ kW := List.mem_filter.mpr ⟨kt_3 (List.mem_of_getElem? (i := 154) (by rfl)), rfl⟩
theorem q_663 : (Cond.methodLink RX7 48 yX7_layFirst) ∈ kW := List.mem_filter.mpr ⟨kt_3 (List.mem_of_getElem? (i := 155) (by rfl)), rfl⟩
theorem q_664 : (Cond.static yX7_layFirst) ∈ kW := List.mem_filter.mpr ⟨kt_3 (List.mem_of_getElem? (i := 156) (by rfl)), rfl⟩
theorem q_665 : (Cond.code yX7_layFirst cX7_layFirst 3 none) ∈ kW := List.mem_filter.mpr ⟨kt_3 (List.mem_of_getElem? (i := 157) (by rfl)), rfl⟩
theorem q_666 : (Cond.fieldLink RX7 52 "StillThereModel" "thrown" "I") ∈ kW := List.mem_filter.mpr ⟨kt_3 (List.mem_of_getElem? (i := 158) (by rfl)), rfl⟩
theorem q_667 : (Cond.fieldLink RX7 7 "StillThereModel" "text" "[I") ∈ kW := List.mem_filter.mpr ⟨kt_3 (List.mem_of_getElem? (i := 159) (by rfl)), rfl⟩
theorem q_668 : (Cond.fieldLink RX7 122 "StillThereModel" "textSize" "I") ∈ kW := List.mem_filter.mpr ⟨kt_3 (List.mem_of_getElem? (i := 160) (by rfl)), rfl⟩
theorem q_669 : (Cond.fieldLink RX7 125 "StillThereModel" "place" "I") ∈ kW := List.mem_filter.mpr ⟨kt_3 (List.mem_of_getElem? (i := 161) (by rfl)), rfl⟩
theorem q_670 : (Cond.fieldLink RX7 13 "StillThereModel" "readPage" "[I") ∈ kW := List.mem_filter.mpr ⟨kt_3 (List.mem_of_getElem? (i := 162) (by rfl)), rfl⟩
theorem q_671 : (Cond.fieldLink RX7 16 "StillThereModel" "readEvents" "[I") ∈ kW := List.mem_filter.mpr ⟨kt_3 (List.mem_of_getElem? (i := 163) (by rfl)), rfl⟩
theorem q_672 : (Cond.fieldLink RX7 131 "StillThereModel" "readMany" "I") ∈ kW := List.mem_filter.mpr ⟨kt_3 (List.mem_of_getElem? (i := 164) (by rfl)), rfl⟩
theorem q_673 : (Cond.fieldLink RX7 19 "StillThereModel" "page" "[I") ∈ kW := List.mem_filter.mpr ⟨kt_3 (List.mem_of_getElem? (i := 165) (by rfl)), rfl⟩
theorem q_674 : (Cond.fieldLink RX7 22 "StillThereModel" "trial" "[I") ∈ kW := List.mem_filter.mpr ⟨kt_3 (List.mem_of_getElem? (i := 166) (by rfl)), rfl⟩
theorem q_675 : (Cond.fieldLink RX7 25 "StillThereModel" "book" "[I") ∈ kW := List.mem_filter.mpr ⟨kt_3 (List.mem_of_getElem? (i := 167) (by rfl)), rfl⟩
theorem q_676 : (Cond.fieldLink RX7 147 "StillThereModel" "doings" "I") ∈ kW := List.mem_filter.mpr ⟨kt_3 (List.mem_of_getElem? (i := 168) (by rfl)), rfl⟩
theorem q_677 : (Cond.fieldLink RX7 28 "StillThereModel" "kept" "[I") ∈ kW := List.mem_filter.mpr ⟨kt_3 (List.mem_of_getElem? (i := 169) (by rfl)), rfl⟩
theorem q_678 : (Cond.fieldLink RX7 31 "StillThereModel" "isKept" "[Z") ∈ kW := List.mem_filter.mpr ⟨kt_3 (List.mem_of_getElem? (i := 170) (by rfl)), rfl⟩
theorem q_679 : (Cond.fieldLink RX7 203 "StillThereModel" "seen" "I") ∈ kW := List.mem_filter.mpr ⟨kt_3 (List.mem_of_getElem? (i := 171) (by rfl)), rfl⟩
theorem q_680 : (Cond.fieldLink RX7 35 "StillThereModel" "seenAt" "[I") ∈ kW := List.mem_filter.mpr ⟨kt_3 (List.mem_of_getElem? (i := 172) (by rfl)), rfl⟩
theorem q_681 : (Cond.fieldLink RX7 38 "StillThereModel" "seenEnd" "[I") ∈ kW := List.mem_filter.mpr ⟨kt_3 (List.mem_of_getElem? (i := 173) (by rfl)), rfl⟩
theorem q_682 : (Cond.fieldLink RX7 41 "StillThereModel" "seenMood" "[I") ∈ kW := List.mem_filter.mpr ⟨kt_3 (List.mem_of_getElem? (i := 174) (by rfl)), rfl⟩
theorem q_683 : (Cond.fieldLink RX7 232 "StillThereModel" "seed" "J") ∈ kW := List.mem_filter.mpr ⟨kt_3 (List.mem_of_getElem? (i := 175) (by rfl)), rfl⟩
theorem q_684 : (Cond.fieldLink RX7 44 "StillThereModel" "lostTo" "I") ∈ kW := List.mem_filter.mpr ⟨kt_3 (List.mem_of_getElem? (i := 176) (by rfl)), rfl⟩
theorem q_685 : (Cond.fieldLink RX7 74 "StillThereModel" "lostYet" "I") ∈ kW := List.mem_filter.mpr ⟨kt_3 (List.mem_of_getElem? (i := 177) (by rfl)), rfl⟩
theorem q_686 : (Cond.fieldLink RX7 84 "StillThereModel" "lostSet" "I") ∈ kW := List.mem_filter.mpr ⟨kt_3 (List.mem_of_getElem? (i := 178) (by rfl)), rfl⟩
theorem q_687 : (Cond.fieldLink RX7 81 "StillThereModel" "sentYet" "I") ∈ kW := List.mem_filter.mpr ⟨kt_3 (List.mem_of_getElem? (i := 179) (by rfl)), rfl⟩
theorem q_733 : (Cond.methodLink RL 17 yX7_write) ∈ kW := List.mem_filter.mpr ⟨kt_3 (List.mem_of_getElem? (i := 225) (by rfl)), rfl⟩
theorem q_734 : (Cond.instanceMethod yX7_write) ∈ kW := List.mem_filter.mpr ⟨kt_3 (List.mem_of_getElem? (i := 226) (by rfl)), rfl⟩
theorem q_735 : (Cond.selects RX7 yX7_write yX7_write) ∈ kW := List.mem_filter.mpr ⟨kt_3 (List.mem_of_getElem? (i := 227) (by rfl)), rfl⟩
theorem q_736 : (Cond.code yX7_write cX7_write 2 (some .int)) ∈ kW := List.mem_filter.mpr ⟨kt_3 (List.mem_of_getElem? (i := 228) (by rfl)), rfl⟩
theorem q_737 : (Cond.constantLong RX7 120 255) ∈ kW := List.mem_filter.mpr ⟨kt_3 (List.mem_of_getElem? (i := 229) (by rfl)), rfl⟩
theorem q_738 : (Cond.methodLink RX7 55 yX7_in) ∈ kW := List.mem_filter.mpr ⟨kt_3 (List.mem_of_getElem? (i := 230) (by rfl)), rfl⟩
theorem q_739 : (Cond.static yX7_in) ∈ kW := List.mem_filter.mpr ⟨kt_3 (List.mem_of_getElem? (i := 231) (by rfl)), rfl⟩
theorem q_740 : (Cond.code yX7_in cX7_in 6 (some .boolean)) ∈ kW := List.mem_filter.mpr ⟨kt_3 (List.mem_of_getElem? (i := 232) (by rfl)), rfl⟩
theorem q_741 : (Cond.methodLink RL 22 yX7_wipe) ∈ kW := List.mem_filter.mpr ⟨kt_3 (List.mem_of_getElem? (i := 233) (by rfl)), rfl⟩
theorem q_742 : (Cond.instanceMethod yX7_wipe) ∈ kW := List.mem_filter.mpr ⟨kt_3 (List.mem_of_getElem? (i := 234) (by rfl)), rfl⟩
theorem q_743 : (Cond.selects RX7 yX7_wipe yX7_wipe) ∈ kW := List.mem_filter.mpr ⟨kt_3 (List.mem_of_getElem? (i := 235) (by rfl)), rfl⟩
theorem q_744 : (Cond.code yX7_wipe cX7_wipe 2 (some .int)) ∈ kW := List.mem_filter.mpr ⟨kt_3 (List.mem_of_getElem? (i := 236) (by rfl)), rfl⟩
theorem q_745 : (Cond.methodLink RL 26 yX7_fault) ∈ kW := List.mem_filter.mpr ⟨kt_3 (List.mem_of_getElem? (i := 237) (by rfl)), rfl⟩
theorem q_746 : (Cond.instanceMethod yX7_fault) ∈ kW := List.mem_filter.mpr ⟨kt_3 (List.mem_of_getElem? (i := 238) (by rfl)), rfl⟩
theorem q_747 : (Cond.selects RX7 yX7_fault yX7_fault) ∈ kW := List.mem_filter.mpr ⟨kt_3 (List.mem_of_getElem? (i := 239) (by rfl)), rfl⟩
theorem q_748 : (Cond.code yX7_fault cX7_fault 1 (some .int)) ∈ kW := List.mem_filter.mpr ⟨kt_4 (List.mem_of_getElem? (i := 0) (by rfl)), rfl⟩
theorem q_749 : (Cond.methodLink RX7 138 yX7_readLink) ∈ kW := List.mem_filter.mpr ⟨kt_4 (List.mem_of_getElem? (i := 1) (by rfl)), rfl⟩
theorem q_751 : (Cond.instanceMethod yX7_readLink) ∈ kW := List.mem_filter.mpr ⟨kt_4 (List.mem_of_getElem? (i := 3) (by rfl)), rfl⟩
theorem q_752 : (Cond.code yX7_readLink cX7_readLink 3 (some .int)) ∈ kW := List.mem_filter.mpr ⟨kt_4 (List.mem_of_getElem? (i := 4) (by rfl)), rfl⟩
theorem q_753 : (Cond.methodLink RX7 128 yX7_figure) ∈ kW := List.mem_filter.mpr ⟨kt_4 (List.mem_of_getElem? (i := 5) (by rfl)), rfl⟩
theorem q_755 : (Cond.instanceMethod yX7_figure) ∈ kW := List.mem_filter.mpr ⟨kt_4 (List.mem_of_getElem? (i := 7) (by rfl)), rfl⟩
theorem q_756 : (Cond.code yX7_figure cX7_figure 4 (some .int)) ∈ kW := List.mem_filter.mpr ⟨kt_4 (List.mem_of_getElem? (i := 8) (by rfl)), rfl⟩
theorem q_757 : (Cond.methodLink RX7 67 yX7_useTold) ∈ kW := List.mem_filter.mpr ⟨kt_4 (List.mem_of_getElem? (i := 9) (by rfl)), rfl⟩
theorem q_758 : (Cond.static yX7_useTold) ∈ kW := List.mem_filter.mpr ⟨kt_4 (List.mem_of_getElem? (i := 10) (by rfl)), rfl⟩
theorem q_759 : (Cond.code yX7_useTold cX7_useTold 2 none) ∈ kW := List.mem_filter.mpr ⟨kt_4 (List.mem_of_getElem? (i := 11) (by rfl)), rfl⟩
theorem q_760 : (Cond.methodLink RX7 134 yX7_readEvent) ∈ kW := List.mem_filter.mpr ⟨kt_4 (List.mem_of_getElem? (i := 12) (by rfl)), rfl⟩
theorem q_762 : (Cond.instanceMethod yX7_readEvent) ∈ kW := List.mem_filter.mpr ⟨kt_4 (List.mem_of_getElem? (i := 14) (by rfl)), rfl⟩
theorem q_763 : (Cond.code yX7_readEvent cX7_readEvent 3 (some .int)) ∈ kW := List.mem_filter.mpr ⟨kt_4 (List.mem_of_getElem? (i := 15) (by rfl)), rfl⟩
theorem q_764 : (Cond.methodLink RL 30 yX7_link) ∈ kW := List.mem_filter.mpr ⟨kt_4 (List.mem_of_getElem? (i := 16) (by rfl)), rfl⟩
theorem q_765 : (Cond.instanceMethod yX7_link) ∈ kW := List.mem_filter.mpr ⟨kt_4 (List.mem_of_getElem? (i := 17) (by rfl)), rfl⟩
theorem q_766 : (Cond.selects RX7 yX7_link yX7_link) ∈ kW := List.mem_filter.mpr ⟨kt_4 (List.mem_of_getElem? (i := 18) (by rfl)), rfl⟩
theorem q_767 : (Cond.code yX7_link cX7_link 3 (some .int)) ∈ kW := List.mem_filter.mpr ⟨kt_4 (List.mem_of_getElem? (i := 19) (by rfl)), rfl⟩
theorem q_768 : (Cond.methodLink RX7 113 yX7_lay) ∈ kW := List.mem_filter.mpr ⟨kt_4 (List.mem_of_getElem? (i := 20) (by rfl)), rfl⟩
theorem q_769 : (Cond.static yX7_lay) ∈ kW := List.mem_filter.mpr ⟨kt_4 (List.mem_of_getElem? (i := 21) (by rfl)), rfl⟩
theorem q_770 : (Cond.code yX7_lay cX7_lay 3 none) ∈ kW := List.mem_filter.mpr ⟨kt_4 (List.mem_of_getElem? (i := 22) (by rfl)), rfl⟩
theorem q_771 : (Cond.methodLink RX7 141 yX7_layTrial) ∈ kW := List.mem_filter.mpr ⟨kt_4 (List.mem_of_getElem? (i := 23) (by rfl)), rfl⟩
theorem q_773 : (Cond.instanceMethod yX7_layTrial) ∈ kW := List.mem_filter.mpr ⟨kt_4 (List.mem_of_getElem? (i := 25) (by rfl)), rfl⟩
theorem q_774 : (Cond.code yX7_layTrial cX7_layTrial 1 none) ∈ kW := List.mem_filter.mpr ⟨kt_4 (List.mem_of_getElem? (i := 26) (by rfl)), rfl⟩
theorem q_775 : (Cond.methodLink RX7 144 yX7_goFor) ∈ kW := List.mem_filter.mpr ⟨kt_4 (List.mem_of_getElem? (i := 27) (by rfl)), rfl⟩
theorem q_777 : (Cond.instanceMethod yX7_goFor) ∈ kW := List.mem_filter.mpr ⟨kt_4 (List.mem_of_getElem? (i := 29) (by rfl)), rfl⟩
theorem q_778 : (Cond.code yX7_goFor cX7_goFor 4 none) ∈ kW := List.mem_filter.mpr ⟨kt_4 (List.mem_of_getElem? (i := 30) (by rfl)), rfl⟩
theorem q_779 : (Cond.methodLink RX7 110 yX7_tick) ∈ kW := List.mem_filter.mpr ⟨kt_4 (List.mem_of_getElem? (i := 31) (by rfl)), rfl⟩
theorem q_781 : (Cond.instanceMethod yX7_tick) ∈ kW := List.mem_filter.mpr ⟨kt_4 (List.mem_of_getElem? (i := 33) (by rfl)), rfl⟩
theorem q_782 : (Cond.code yX7_tick cX7_tick 4 none) ∈ kW := List.mem_filter.mpr ⟨kt_4 (List.mem_of_getElem? (i := 34) (by rfl)), rfl⟩
theorem q_783 : (Cond.methodLink RX7 95 yX7_take) ∈ kW := List.mem_filter.mpr ⟨kt_4 (List.mem_of_getElem? (i := 35) (by rfl)), rfl⟩
theorem q_785 : (Cond.instanceMethod yX7_take) ∈ kW := List.mem_filter.mpr ⟨kt_4 (List.mem_of_getElem? (i := 37) (by rfl)), rfl⟩
theorem q_786 : (Cond.code yX7_take cX7_take 6 none) ∈ kW := List.mem_filter.mpr ⟨kt_4 (List.mem_of_getElem? (i := 38) (by rfl)), rfl⟩
theorem q_787 : (Cond.methodLink RX7 77 yX7_hear) ∈ kW := List.mem_filter.mpr ⟨kt_4 (List.mem_of_getElem? (i := 39) (by rfl)), rfl⟩
theorem q_788 : (Cond.static yX7_hear) ∈ kW := List.mem_filter.mpr ⟨kt_4 (List.mem_of_getElem? (i := 40) (by rfl)), rfl⟩
theorem q_789 : (Cond.code yX7_hear cX7_hear 5 none) ∈ kW := List.mem_filter.mpr ⟨kt_4 (List.mem_of_getElem? (i := 41) (by rfl)), rfl⟩
theorem q_790 : (Cond.methodLink RX7 71 yX7_fall) ∈ kW := List.mem_filter.mpr ⟨kt_4 (List.mem_of_getElem? (i := 42) (by rfl)), rfl⟩
theorem q_791 : (Cond.static yX7_fall) ∈ kW := List.mem_filter.mpr ⟨kt_4 (List.mem_of_getElem? (i := 43) (by rfl)), rfl⟩
theorem q_792 : (Cond.code yX7_fall cX7_fall 2 none) ∈ kW := List.mem_filter.mpr ⟨kt_4 (List.mem_of_getElem? (i := 44) (by rfl)), rfl⟩
theorem q_793 : (Cond.methodLink RX7 98 yX7_trusts) ∈ kW := List.mem_filter.mpr ⟨kt_4 (List.mem_of_getElem? (i := 45) (by rfl)), rfl⟩
theorem q_794 : (Cond.static yX7_trusts) ∈ kW := List.mem_filter.mpr ⟨kt_4 (List.mem_of_getElem? (i := 46) (by rfl)), rfl⟩
theorem q_795 : (Cond.code yX7_trusts cX7_trusts 2 (some .boolean)) ∈ kW := List.mem_filter.mpr ⟨kt_4 (List.mem_of_getElem? (i := 47) (by rfl)), rfl⟩
theorem q_796 : (Cond.methodLink RX7 63 yX7_bothUp) ∈ kW := List.mem_filter.mpr ⟨kt_4 (List.mem_of_getElem? (i := 48) (by rfl)), rfl⟩
theorem q_797 : (Cond.static yX7_bothUp) ∈ kW := List.mem_filter.mpr ⟨kt_4 (List.mem_of_getElem? (i := 49) (by rfl)), rfl⟩
theorem q_798 : (Cond.code yX7_bothUp cX7_bothUp 2 (some .boolean)) ∈ kW := List.mem_filter.mpr ⟨kt_4 (List.mem_of_getElem? (i := 50) (by rfl)), rfl⟩
theorem q_799 : (Cond.methodLink RX7 101 yX7_limitOn) ∈ kW := List.mem_filter.mpr ⟨kt_4 (List.mem_of_getElem? (i := 51) (by rfl)), rfl⟩
theorem q_800 : (Cond.static yX7_limitOn) ∈ kW := List.mem_filter.mpr ⟨kt_4 (List.mem_of_getElem? (i := 52) (by rfl)), rfl⟩
theorem q_801 : (Cond.code yX7_limitOn cX7_limitOn 2 (some .int)) ∈ kW := List.mem_filter.mpr ⟨kt_4 (List.mem_of_getElem? (i := 53) (by rfl)), rfl⟩
theorem q_802 : (Cond.methodLink RX7 59 yX7_max) ∈ kW := List.mem_filter.mpr ⟨kt_4 (List.mem_of_getElem? (i := 54) (by rfl)), rfl⟩
theorem q_803 : (Cond.static yX7_max) ∈ kW := List.mem_filter.mpr ⟨kt_4 (List.mem_of_getElem? (i := 55) (by rfl)), rfl⟩
theorem q_804 : (Cond.code yX7_max cX7_max 2 (some .int)) ∈ kW := List.mem_filter.mpr ⟨kt_4 (List.mem_of_getElem? (i := 56) (by rfl)), rfl⟩
theorem q_805 : (Cond.methodLink RX7 104 yX7_isStill) ∈ kW := List.mem_filter.mpr ⟨kt_4 (List.mem_of_getElem? (i := 57) (by rfl)), rfl⟩
theorem q_806 : (Cond.static yX7_isStill) ∈ kW := List.mem_filter.mpr ⟨kt_4 (List.mem_of_getElem? (i := 58) (by rfl)), rfl⟩
theorem q_807 : (Cond.code yX7_isStill cX7_isStill 2 (some .boolean)) ∈ kW := List.mem_filter.mpr ⟨kt_4 (List.mem_of_getElem? (i := 59) (by rfl)), rfl⟩
theorem q_808 : (Cond.methodLink RX7 107 yX7_sendOn) ∈ kW := List.mem_filter.mpr ⟨kt_4 (List.mem_of_getElem? (i := 60) (by rfl)), rfl⟩
theorem q_810 : (Cond.instanceMethod yX7_sendOn) ∈ kW := List.mem_filter.mpr ⟨kt_4 (List.mem_of_getElem? (i := 62) (by rfl)), rfl⟩
theorem q_811 : (Cond.code yX7_sendOn cX7_sendOn 5 none) ∈ kW := List.mem_filter.mpr ⟨kt_4 (List.mem_of_getElem? (i := 63) (by rfl)), rfl⟩
theorem q_812 : (Cond.methodLink RX7 87 yX7_has) ∈ kW := List.mem_filter.mpr ⟨kt_4 (List.mem_of_getElem? (i := 64) (by rfl)), rfl⟩
theorem q_813 : (Cond.static yX7_has) ∈ kW := List.mem_filter.mpr ⟨kt_4 (List.mem_of_getElem? (i := 65) (by rfl)), rfl⟩
theorem q_814 : (Cond.code yX7_has cX7_has 2 (some .boolean)) ∈ kW := List.mem_filter.mpr ⟨kt_4 (List.mem_of_getElem? (i := 66) (by rfl)), rfl⟩
theorem q_815 : (Cond.methodLink RX7 91 yX7_paceOn) ∈ kW := List.mem_filter.mpr ⟨kt_4 (List.mem_of_getElem? (i := 67) (by rfl)), rfl⟩
theorem q_816 : (Cond.static yX7_paceOn) ∈ kW := List.mem_filter.mpr ⟨kt_4 (List.mem_of_getElem? (i := 68) (by rfl)), rfl⟩
theorem q_817 : (Cond.code yX7_paceOn cX7_paceOn 2 (some .int)) ∈ kW := List.mem_filter.mpr ⟨kt_4 (List.mem_of_getElem? (i := 69) (by rfl)), rfl⟩
theorem q_818 : (Cond.methodLink RL 35 yX7_end) ∈ kW := List.mem_filter.mpr ⟨kt_4 (List.mem_of_getElem? (i := 70) (by rfl)), rfl⟩
theorem q_819 : (Cond.instanceMethod yX7_end) ∈ kW := List.mem_filter.mpr ⟨kt_4 (List.mem_of_getElem? (i := 71) (by rfl)), rfl⟩
theorem q_820 : (Cond.selects RX7 yX7_end yX7_end) ∈ kW := List.mem_filter.mpr ⟨kt_4 (List.mem_of_getElem? (i := 72) (by rfl)), rfl⟩
theorem q_821 : (Cond.code yX7_end cX7_end 3 (some .int)) ∈ kW := List.mem_filter.mpr ⟨kt_4 (List.mem_of_getElem? (i := 73) (by rfl)), rfl⟩
theorem q_822 : (Cond.methodLink RX7 153 yX7_noEnd) ∈ kW := List.mem_filter.mpr ⟨kt_4 (List.mem_of_getElem? (i := 74) (by rfl)), rfl⟩
theorem q_823 : (Cond.static yX7_noEnd) ∈ kW := List.mem_filter.mpr ⟨kt_4 (List.mem_of_getElem? (i := 75) (by rfl)), rfl⟩
theorem q_824 : (Cond.code yX7_noEnd cX7_noEnd 1 (some .boolean)) ∈ kW := List.mem_filter.mpr ⟨kt_4 (List.mem_of_getElem? (i := 76) (by rfl)), rfl⟩
theorem q_825 : (Cond.constantLong RX7 157 9) ∈ kW := List.mem_filter.mpr ⟨kt_4 (List.mem_of_getElem? (i := 77) (by rfl)), rfl⟩
theorem q_826 : (Cond.methodLink RX7 159 yX7_noticed) ∈ kW := List.mem_filter.mpr ⟨kt_4 (List.mem_of_getElem? (i := 78) (by rfl)), rfl⟩
theorem q_828 : (Cond.instanceMethod yX7_noticed) ∈ kW := List.mem_filter.mpr ⟨kt_4 (List.mem_of_getElem? (i := 80) (by rfl)), rfl⟩
theorem q_829 : (Cond.code yX7_noticed cX7_noticed 3 (some .int)) ∈ kW := List.mem_filter.mpr ⟨kt_4 (List.mem_of_getElem? (i := 81) (by rfl)), rfl⟩
theorem q_830 : (Cond.methodLink RX7 163 yX7_endured) ∈ kW := List.mem_filter.mpr ⟨kt_4 (List.mem_of_getElem? (i := 82) (by rfl)), rfl⟩
theorem q_832 : (Cond.instanceMethod yX7_endured) ∈ kW := List.mem_filter.mpr ⟨kt_4 (List.mem_of_getElem? (i := 84) (by rfl)), rfl⟩
theorem q_833 : (Cond.code yX7_endured cX7_endured 4 (some .int)) ∈ kW := List.mem_filter.mpr ⟨kt_4 (List.mem_of_getElem? (i := 85) (by rfl)), rfl⟩
theorem q_834 : (Cond.methodLink RX7 150 yX7_endures) ∈ kW := List.mem_filter.mpr ⟨kt_4 (List.mem_of_getElem? (i := 86) (by rfl)), rfl⟩
theorem q_836 : (Cond.instanceMethod yX7_endures) ∈ kW := List.mem_filter.mpr ⟨kt_4 (List.mem_of_getElem? (i := 88) (by rfl)), rfl⟩
theorem q_837 : (Cond.code yX7_endures cX7_endures 5 (some .boolean)) ∈ kW := List.mem_filter.mpr ⟨kt_4 (List.mem_of_getElem? (i := 89) (by rfl)), rfl⟩
theorem q_838 : (Cond.methodLink RL 39 yX7_known) ∈ kW := List.mem_filter.mpr ⟨kt_4 (List.mem_of_getElem? (i := 90) (by rfl)), rfl⟩
theorem q_839 : (Cond.instanceMethod yX7_known) ∈ kW := List.mem_filter.mpr ⟨kt_4 (List.mem_of_getElem? (i := 91) (by rfl)), rfl⟩
theorem q_840 : (Cond.selects RX7 yX7_known yX7_known) ∈ kW := List.mem_filter.mpr ⟨kt_4 (List.mem_of_getElem? (i := 92) (by rfl)), rfl⟩
theorem q_841 : (Cond.code yX7_known cX7_known 3 (some .int)) ∈ kW := List.mem_filter.mpr ⟨kt_4 (List.mem_of_getElem? (i := 93) (by rfl)), rfl⟩
theorem q_842 : (Cond.constantLong RX7 166 4) ∈ kW := List.mem_filter.mpr ⟨kt_4 (List.mem_of_getElem? (i := 94) (by rfl)), rfl⟩
theorem q_843 : (Cond.methodLink RL 43 yX7_way) ∈ kW := List.mem_filter.mpr ⟨kt_4 (List.mem_of_getElem? (i := 95) (by rfl)), rfl⟩
theorem q_844 : (Cond.instanceMethod yX7_way) ∈ kW := List.mem_filter.mpr ⟨kt_4 (List.mem_of_getElem? (i := 96) (by rfl)), rfl⟩
theorem q_845 : (Cond.selects RX7 yX7_way yX7_way) ∈ kW := List.mem_filter.mpr ⟨kt_4 (List.mem_of_getElem? (i := 97) (by rfl)), rfl⟩
theorem q_846 : (Cond.code yX7_way cX7_way 3 (some .int)) ∈ kW := List.mem_filter.mpr ⟨kt_4 (List.mem_of_getElem? (i := 98) (by rfl)), rfl⟩
theorem q_847 : (Cond.methodLink RL 47 yX7_pass) ∈ kW := List.mem_filter.mpr ⟨kt_4 (List.mem_of_getElem? (i := 99) (by rfl)), rfl⟩
theorem q_848 : (Cond.instanceMethod yX7_pass) ∈ kW := List.mem_filter.mpr ⟨kt_4 (List.mem_of_getElem? (i := 100) (by rfl)), rfl⟩
theorem q_849 : (Cond.selects RX7 yX7_pass yX7_pass) ∈ kW := List.mem_filter.mpr ⟨kt_4 (List.mem_of_getElem? (i := 101) (by rfl)), rfl⟩
theorem q_850 : (Cond.code yX7_pass cX7_pass 3 (some .int)) ∈ kW := List.mem_filter.mpr ⟨kt_4 (List.mem_of_getElem? (i := 102) (by rfl)), rfl⟩
theorem q_851 : (Cond.constantLong RX7 168 30) ∈ kW := List.mem_filter.mpr ⟨kt_4 (List.mem_of_getElem? (i := 103) (by rfl)), rfl⟩
theorem q_852 : (Cond.methodLink RX7 170 yX7_note) ∈ kW := List.mem_filter.mpr ⟨kt_4 (List.mem_of_getElem? (i := 104) (by rfl)), rfl⟩
theorem q_854 : (Cond.instanceMethod yX7_note) ∈ kW := List.mem_filter.mpr ⟨kt_4 (List.mem_of_getElem? (i := 106) (by rfl)), rfl⟩
theorem q_855 : (Cond.code yX7_note cX7_note 2 none) ∈ kW := List.mem_filter.mpr ⟨kt_4 (List.mem_of_getElem? (i := 107) (by rfl)), rfl⟩
theorem q_856 : (Cond.methodLink RL 52 yX7_tell) ∈ kW := List.mem_filter.mpr ⟨kt_4 (List.mem_of_getElem? (i := 108) (by rfl)), rfl⟩
theorem q_857 : (Cond.instanceMethod yX7_tell) ∈ kW := List.mem_filter.mpr ⟨kt_4 (List.mem_of_getElem? (i := 109) (by rfl)), rfl⟩
theorem q_858 : (Cond.selects RX7 yX7_tell yX7_tell) ∈ kW := List.mem_filter.mpr ⟨kt_4 (List.mem_of_getElem? (i := 110) (by rfl)), rfl⟩
theorem q_859 : (Cond.code yX7_tell cX7_tell 5 (some .int)) ∈ kW := List.mem_filter.mpr ⟨kt_4 (List.mem_of_getElem? (i := 111) (by rfl)), rfl⟩
theorem q_860 : (Cond.constantLong RX7 173 2) ∈ kW := List.mem_filter.mpr ⟨kt_4 (List.mem_of_getElem? (i := 112) (by rfl)), rfl⟩
theorem q_861 : (Cond.constantLong RX7 175 5) ∈ kW := List.mem_filter.mpr ⟨kt_4 (List.mem_of_getElem? (i := 113) (by rfl)), rfl⟩
theorem q_862 : (Cond.methodLink RX7 177 yX7_setTx) ∈ kW := List.mem_filter.mpr ⟨kt_4 (List.mem_of_getElem? (i := 114) (by rfl)), rfl⟩
theorem q_863 : (Cond.static yX7_setTx) ∈ kW := List.mem_filter.mpr ⟨kt_4 (List.mem_of_getElem? (i := 115) (by rfl)), rfl⟩
theorem q_864 : (Cond.code yX7_setTx cX7_setTx 4 none) ∈ kW := List.mem_filter.mpr ⟨kt_4 (List.mem_of_getElem? (i := 116) (by rfl)), rfl⟩
theorem q_865 : (Cond.methodLink RX7 117 yX7_min) ∈ kW := List.mem_filter.mpr ⟨kt_4 (List.mem_of_getElem? (i := 117) (by rfl)), rfl⟩
theorem q_866 : (Cond.static yX7_min) ∈ kW := List.mem_filter.mpr ⟨kt_4 (List.mem_of_getElem? (i := 118) (by rfl)), rfl⟩
theorem q_867 : (Cond.code yX7_min cX7_min 2 (some .int)) ∈ kW := List.mem_filter.mpr ⟨kt_4 (List.mem_of_getElem? (i := 119) (by rfl)), rfl⟩
theorem q_868 : (Cond.methodLink RX7 180 yX7_setRx) ∈ kW := List.mem_filter.mpr ⟨kt_4 (List.mem_of_getElem? (i := 120) (by rfl)), rfl⟩
theorem q_869 : (Cond.static yX7_setRx) ∈ kW := List.mem_filter.mpr ⟨kt_4 (List.mem_of_getElem? (i := 121) (by rfl)), rfl⟩
theorem q_870 : (Cond.code yX7_setRx cX7_setRx 4 none) ∈ kW := List.mem_filter.mpr ⟨kt_4 (List.mem_of_getElem? (i := 122) (by rfl)), rfl⟩
theorem q_871 : (Cond.methodLink RL 56 yX7_demand) ∈ kW := List.mem_filter.mpr ⟨kt_4 (List.mem_of_getElem? (i := 123) (by rfl)), rfl⟩
theorem q_872 : (Cond.instanceMethod yX7_demand) ∈ kW := List.mem_filter.mpr ⟨kt_4 (List.mem_of_getElem? (i := 124) (by rfl)), rfl⟩
theorem q_873 : (Cond.selects RX7 yX7_demand yX7_demand) ∈ kW := List.mem_filter.mpr ⟨kt_4 (List.mem_of_getElem? (i := 125) (by rfl)), rfl⟩
theorem q_874 : (Cond.code yX7_demand cX7_demand 2 (some .int)) ∈ kW := List.mem_filter.mpr ⟨kt_4 (List.mem_of_getElem? (i := 126) (by rfl)), rfl⟩
theorem q_875 : (Cond.methodLink RL 60 yX7_turn) ∈ kW := List.mem_filter.mpr ⟨kt_4 (List.mem_of_getElem? (i := 127) (by rfl)), rfl⟩
theorem q_876 : (Cond.instanceMethod yX7_turn) ∈ kW := List.mem_filter.mpr ⟨kt_4 (List.mem_of_getElem? (i := 128) (by rfl)), rfl⟩
theorem q_877 : (Cond.selects RX7 yX7_turn yX7_turn) ∈ kW := List.mem_filter.mpr ⟨kt_4 (List.mem_of_getElem? (i := 129) (by rfl)), rfl⟩
theorem q_878 : (Cond.code yX7_turn cX7_turn 2 (some .int)) ∈ kW := List.mem_filter.mpr ⟨kt_4 (List.mem_of_getElem? (i := 130) (by rfl)), rfl⟩
theorem q_879 : (Cond.methodLink RL 64 yX7_poll) ∈ kW := List.mem_filter.mpr ⟨kt_4 (List.mem_of_getElem? (i := 131) (by rfl)), rfl⟩
theorem q_880 : (Cond.instanceMethod yX7_poll) ∈ kW := List.mem_filter.mpr ⟨kt_4 (List.mem_of_getElem? (i := 132) (by rfl)), rfl⟩
theorem q_881 : (Cond.selects RX7 yX7_poll yX7_poll) ∈ kW := List.mem_filter.mpr ⟨kt_4 (List.mem_of_getElem? (i := 133) (by rfl)), rfl⟩
theorem q_882 : (Cond.code yX7_poll cX7_poll 2 (some .int)) ∈ kW := List.mem_filter.mpr ⟨kt_4 (List.mem_of_getElem? (i := 134) (by rfl)), rfl⟩
theorem q_883 : (Cond.methodLink RX7 183 yX7_mayPoll) ∈ kW := List.mem_filter.mpr ⟨kt_4 (List.mem_of_getElem? (i := 135) (by rfl)), rfl⟩
theorem q_884 : (Cond.static yX7_mayPoll) ∈ kW := List.mem_filter.mpr ⟨kt_4 (List.mem_of_getElem? (i := 136) (by rfl)), rfl⟩
theorem q_885 : (Cond.code yX7_mayPoll cX7_mayPoll 2 (some .boolean)) ∈ kW := List.mem_filter.mpr ⟨kt_4 (List.mem_of_getElem? (i := 137) (by rfl)), rfl⟩
theorem q_886 : (Cond.methodLink RX7 186 yX7_pollOn) ∈ kW := List.mem_filter.mpr ⟨kt_4 (List.mem_of_getElem? (i := 138) (by rfl)), rfl⟩
theorem q_887 : (Cond.static yX7_pollOn) ∈ kW := List.mem_filter.mpr ⟨kt_4 (List.mem_of_getElem? (i := 139) (by rfl)), rfl⟩
theorem q_888 : (Cond.code yX7_pollOn cX7_pollOn 2 none) ∈ kW := List.mem_filter.mpr ⟨kt_4 (List.mem_of_getElem? (i := 140) (by rfl)), rfl⟩
theorem q_889 : (Cond.methodLink RL 68 yX7_undo) ∈ kW := List.mem_filter.mpr ⟨kt_4 (List.mem_of_getElem? (i := 141) (by rfl)), rfl⟩
theorem q_890 : (Cond.instanceMethod yX7_undo) ∈ kW := List.mem_filter.mpr ⟨kt_4 (List.mem_of_getElem? (i := 142) (by rfl)), rfl⟩
theorem q_891 : (Cond.selects RX7 yX7_undo yX7_undo) ∈ kW := List.mem_filter.mpr ⟨kt_4 (List.mem_of_getElem? (i := 143) (by rfl)), rfl⟩
theorem q_892 : (Cond.code yX7_undo cX7_undo 2 (some .int)) ∈ kW := List.mem_filter.mpr ⟨kt_4 (List.mem_of_getElem? (i := 144) (by rfl)), rfl⟩
theorem q_893 : (Cond.methodLink RL 72 yX7_ahead) ∈ kW := List.mem_filter.mpr ⟨kt_4 (List.mem_of_getElem? (i := 145) (by rfl)), rfl⟩
theorem q_894 : (Cond.instanceMethod yX7_ahead) ∈ kW := List.mem_filter.mpr ⟨kt_4 (List.mem_of_getElem? (i := 146) (by rfl)), rfl⟩
theorem q_895 : (Cond.selects RX7 yX7_ahead yX7_ahead) ∈ kW := List.mem_filter.mpr ⟨kt_4 (List.mem_of_getElem? (i := 147) (by rfl)), rfl⟩
theorem q_896 : (Cond.code yX7_ahead cX7_ahead 3 (some .int)) ∈ kW := List.mem_filter.mpr ⟨kt_4 (List.mem_of_getElem? (i := 148) (by rfl)), rfl⟩
theorem q_897 : (Cond.constantLong RX7 189 99) ∈ kW := List.mem_filter.mpr ⟨kt_4 (List.mem_of_getElem? (i := 149) (by rfl)), rfl⟩
theorem q_898 : (Cond.constantLong RX7 191 3) ∈ kW := List.mem_filter.mpr ⟨kt_4 (List.mem_of_getElem? (i := 150) (by rfl)), rfl⟩
theorem q_899 : (Cond.methodLink RL 76 yX7_letters) ∈ kW := List.mem_filter.mpr ⟨kt_4 (List.mem_of_getElem? (i := 151) (by rfl)), rfl⟩
theorem q_900 : (Cond.instanceMethod yX7_letters) ∈ kW := List.mem_filter.mpr ⟨kt_4 (List.mem_of_getElem? (i := 152) (by rfl)), rfl⟩
theorem q_901 : (Cond.selects RX7 yX7_letters yX7_letters) ∈ kW := List.mem_filter.mpr ⟨kt_4 (List.mem_of_getElem? (i := 153) (by rfl)), rfl⟩
theorem q_902 : (Cond.code yX7_letters cX7_letters 2 (some .int)) ∈ kW := List.mem_filter.mpr ⟨kt_4 (List.mem_of_getElem? (i := 154) (by rfl)), rfl⟩
theorem q_903 : (Cond.methodLink RL 83 yX7_judge) ∈ kW := List.mem_filter.mpr ⟨kt_4 (List.mem_of_getElem? (i := 155) (by rfl)), rfl⟩
theorem q_904 : (Cond.instanceMethod yX7_judge) ∈ kW := List.mem_filter.mpr ⟨kt_4 (List.mem_of_getElem? (i := 156) (by rfl)), rfl⟩
theorem q_905 : (Cond.selects RX7 yX7_judge yX7_judge) ∈ kW := List.mem_filter.mpr ⟨kt_4 (List.mem_of_getElem? (i := 157) (by rfl)), rfl⟩
theorem q_906 : (Cond.code yX7_judge cX7_judge 6 (some .int)) ∈ kW := List.mem_filter.mpr ⟨kt_4 (List.mem_of_getElem? (i := 158) (by rfl)), rfl⟩
theorem q_907 : (Cond.constantLong RX7 193 1000) ∈ kW := List.mem_filter.mpr ⟨kt_4 (List.mem_of_getElem? (i := 159) (by rfl)), rfl⟩
theorem q_908 : (Cond.methodLink RX7 195 yX7_longPower) ∈ kW := List.mem_filter.mpr ⟨kt_4 (List.mem_of_getElem? (i := 160) (by rfl)), rfl⟩
theorem q_909 : (Cond.static yX7_longPower) ∈ kW := List.mem_filter.mpr ⟨kt_4 (List.mem_of_getElem? (i := 161) (by rfl)), rfl⟩
theorem q_910 : (Cond.code yX7_longPower cX7_longPower 6 (some .long)) ∈ kW := List.mem_filter.mpr ⟨kt_4 (List.mem_of_getElem? (i := 162) (by rfl)), rfl⟩
theorem q_911 : (Cond.methodLink RX7 199 yX7_does) ∈ kW := List.mem_filter.mpr ⟨kt_4 (List.mem_of_getElem? (i := 163) (by rfl)), rfl⟩
theorem q_913 : (Cond.instanceMethod yX7_does) ∈ kW := List.mem_filter.mpr ⟨kt_4 (List.mem_of_getElem? (i := 165) (by rfl)), rfl⟩
theorem q_914 : (Cond.code yX7_does cX7_does 7 (some .boolean)) ∈ kW := List.mem_filter.mpr ⟨kt_4 (List.mem_of_getElem? (i := 166) (by rfl)), rfl⟩
theorem q_915 : (Cond.methodLink RL 87 yX7_see) ∈ kW := List.mem_filter.mpr ⟨kt_4 (List.mem_of_getElem? (i := 167) (by rfl)), rfl⟩
theorem q_916 : (Cond.instanceMethod yX7_see) ∈ kW := List.mem_filter.mpr ⟨kt_4 (List.mem_of_getElem? (i := 168) (by rfl)), rfl⟩
theorem q_917 : (Cond.selects RX7 yX7_see yX7_see) ∈ kW := List.mem_filter.mpr ⟨kt_4 (List.mem_of_getElem? (i := 169) (by rfl)), rfl⟩
theorem q_918 : (Cond.code yX7_see cX7_see 4 (some .int)) ∈ kW := List.mem_filter.mpr ⟨kt_4 (List.mem_of_getElem? (i := 170) (by rfl)), rfl⟩
theorem q_919 : (Cond.methodLink RL 91 yX7_unsee) ∈ kW := List.mem_filter.mpr ⟨kt_4 (List.mem_of_getElem? (i := 171) (by rfl)), rfl⟩
theorem q_920 : (Cond.instanceMethod yX7_unsee) ∈ kW := List.mem_filter.mpr ⟨kt_4 (List.mem_of_getElem? (i := 172) (by rfl)), rfl⟩
theorem q_921 : (Cond.selects RX7 yX7_unsee yX7_unsee) ∈ kW := List.mem_filter.mpr ⟨kt_4 (List.mem_of_getElem? (i := 173) (by rfl)), rfl⟩
theorem q_922 : (Cond.code yX7_unsee cX7_unsee 2 (some .int)) ∈ kW := List.mem_filter.mpr ⟨kt_4 (List.mem_of_getElem? (i := 174) (by rfl)), rfl⟩
theorem q_923 : (Cond.methodLink RL 95 yX7_which) ∈ kW := List.mem_filter.mpr ⟨kt_4 (List.mem_of_getElem? (i := 175) (by rfl)), rfl⟩
theorem q_924 : (Cond.instanceMethod yX7_which) ∈ kW := List.mem_filter.mpr ⟨kt_4 (List.mem_of_getElem? (i := 176) (by rfl)), rfl⟩
theorem q_925 : (Cond.selects RX7 yX7_which yX7_which) ∈ kW := List.mem_filter.mpr ⟨kt_4 (List.mem_of_getElem? (i := 177) (by rfl)), rfl⟩
theorem q_926 : (Cond.code yX7_which cX7_which 5 (some .int)) ∈ kW := List.mem_filter.mpr ⟨kt_4 (List.mem_of_getElem? (i := 178) (by rfl)), rfl⟩
theorem q_927 : (Cond.methodLink RX7 206 yX7_isSeen) ∈ kW := List.mem_filter.mpr ⟨kt_4 (List.mem_of_getElem? (i := 179) (by rfl)), rfl⟩
theorem q_929 : (Cond.instanceMethod yX7_isSeen) ∈ kW := List.mem_filter.mpr ⟨kt_4 (List.mem_of_getElem? (i := 181) (by rfl)), rfl⟩
theorem q_930 : (Cond.code yX7_isSeen cX7_isSeen 3 (some .boolean)) ∈ kW := List.mem_filter.mpr ⟨kt_4 (List.mem_of_getElem? (i := 182) (by rfl)), rfl⟩
theorem q_931 : (Cond.methodLink RL 100 yX7_share) ∈ kW := List.mem_filter.mpr ⟨kt_4 (List.mem_of_getElem? (i := 183) (by rfl)), rfl⟩
theorem q_932 : (Cond.instanceMethod yX7_share) ∈ kW := List.mem_filter.mpr ⟨kt_4 (List.mem_of_getElem? (i := 184) (by rfl)), rfl⟩
theorem q_933 : (Cond.selects RX7 yX7_share yX7_share) ∈ kW := List.mem_filter.mpr ⟨kt_4 (List.mem_of_getElem? (i := 185) (by rfl)), rfl⟩
theorem q_934 : (Cond.code yX7_share cX7_share 6 (some .int)) ∈ kW := List.mem_filter.mpr ⟨kt_4 (List.mem_of_getElem? (i := 186) (by rfl)), rfl⟩
theorem q_935 : (Cond.methodLink RX7 212 yX7_ones) ∈ kW := List.mem_filter.mpr ⟨kt_4 (List.mem_of_getElem? (i := 187) (by rfl)), rfl⟩
theorem q_936 : (Cond.static yX7_ones) ∈ kW := List.mem_filter.mpr ⟨kt_4 (List.mem_of_getElem? (i := 188) (by rfl)), rfl⟩
theorem q_937 : (Cond.code yX7_ones cX7_ones 3 (some .int)) ∈ kW := List.mem_filter.mpr ⟨kt_4 (List.mem_of_getElem? (i := 189) (by rfl)), rfl⟩
theorem q_938 : (Cond.methodLink RX7 215 yX7_factorial) ∈ kW := List.mem_filter.mpr ⟨kt_4 (List.mem_of_getElem? (i := 190) (by rfl)), rfl⟩
theorem q_939 : (Cond.static yX7_factorial) ∈ kW := List.mem_filter.mpr ⟨kt_4 (List.mem_of_getElem? (i := 191) (by rfl)), rfl⟩
theorem q_940 : (Cond.code yX7_factorial cX7_factorial 3 (some .int)) ∈ kW := List.mem_filter.mpr ⟨kt_4 (List.mem_of_getElem? (i := 192) (by rfl)), rfl⟩
theorem q_941 : (Cond.methodLink RX7 218 yX7_sentBy) ∈ kW := List.mem_filter.mpr ⟨kt_4 (List.mem_of_getElem? (i := 193) (by rfl)), rfl⟩
theorem q_943 : (Cond.instanceMethod yX7_sentBy) ∈ kW := List.mem_filter.mpr ⟨kt_4 (List.mem_of_getElem? (i := 195) (by rfl)), rfl⟩
theorem q_944 : (Cond.code yX7_sentBy cX7_sentBy 4 (some .int)) ∈ kW := List.mem_filter.mpr ⟨kt_4 (List.mem_of_getElem? (i := 196) (by rfl)), rfl⟩
theorem q_945 : (Cond.methodLink RX7 221 yX7_fraction) ∈ kW := List.mem_filter.mpr ⟨kt_4 (List.mem_of_getElem? (i := 197) (by rfl)), rfl⟩
theorem q_946 : (Cond.static yX7_fraction) ∈ kW := List.mem_filter.mpr ⟨kt_4 (List.mem_of_getElem? (i := 198) (by rfl)), rfl⟩
theorem q_947 : (Cond.code yX7_fraction cX7_fraction 4 (some .int)) ∈ kW := List.mem_filter.mpr ⟨kt_4 (List.mem_of_getElem? (i := 199) (by rfl)), rfl⟩
theorem q_948 : (Cond.methodLink RX7 209 yX7_divisor) ∈ kW := List.mem_filter.mpr ⟨kt_4 (List.mem_of_getElem? (i := 200) (by rfl)), rfl⟩
theorem q_949 : (Cond.static yX7_divisor) ∈ kW := List.mem_filter.mpr ⟨kt_4 (List.mem_of_getElem? (i := 201) (by rfl)), rfl⟩
theorem q_950 : (Cond.code yX7_divisor cX7_divisor 5 (some .int)) ∈ kW := List.mem_filter.mpr ⟨kt_4 (List.mem_of_getElem? (i := 202) (by rfl)), rfl⟩
theorem q_951 : (Cond.methodLink RL 105 yX7_luck) ∈ kW := List.mem_filter.mpr ⟨kt_4 (List.mem_of_getElem? (i := 203) (by rfl)), rfl⟩
theorem q_952 : (Cond.instanceMethod yX7_luck) ∈ kW := List.mem_filter.mpr ⟨kt_4 (List.mem_of_getElem? (i := 204) (by rfl)), rfl⟩
theorem q_953 : (Cond.selects RX7 yX7_luck yX7_luck) ∈ kW := List.mem_filter.mpr ⟨kt_4 (List.mem_of_getElem? (i := 205) (by rfl)), rfl⟩
theorem q_954 : (Cond.code yX7_luck cX7_luck 7 (some .int)) ∈ kW := List.mem_filter.mpr ⟨kt_4 (List.mem_of_getElem? (i := 206) (by rfl)), rfl⟩
theorem q_955 : (Cond.constantLong RX7 225 6) ∈ kW := List.mem_filter.mpr ⟨kt_4 (List.mem_of_getElem? (i := 207) (by rfl)), rfl⟩
theorem q_956 : (Cond.constantLong RX7 227 10) ∈ kW := List.mem_filter.mpr ⟨kt_4 (List.mem_of_getElem? (i := 208) (by rfl)), rfl⟩
theorem q_957 : (Cond.methodLink RX7 229 yX7_power) ∈ kW := List.mem_filter.mpr ⟨kt_4 (List.mem_of_getElem? (i := 209) (by rfl)), rfl⟩
theorem q_958 : (Cond.static yX7_power) ∈ kW := List.mem_filter.mpr ⟨kt_4 (List.mem_of_getElem? (i := 210) (by rfl)), rfl⟩
theorem q_959 : (Cond.code yX7_power cX7_power 4 (some .int)) ∈ kW := List.mem_filter.mpr ⟨kt_4 (List.mem_of_getElem? (i := 211) (by rfl)), rfl⟩
theorem q_960 : (Cond.methodLink RL 110 yX7_seed) ∈ kW := List.mem_filter.mpr ⟨kt_4 (List.mem_of_getElem? (i := 212) (by rfl)), rfl⟩
theorem q_961 : (Cond.instanceMethod yX7_seed) ∈ kW := List.mem_filter.mpr ⟨kt_4 (List.mem_of_getElem? (i := 213) (by rfl)), rfl⟩
theorem q_962 : (Cond.selects RX7 yX7_seed yX7_seed) ∈ kW := List.mem_filter.mpr ⟨kt_4 (List.mem_of_getElem? (i := 214) (by rfl)), rfl⟩
theorem q_963 : (Cond.code yX7_seed cX7_seed 5 (some .long)) ∈ kW := List.mem_filter.mpr ⟨kt_4 (List.mem_of_getElem? (i := 215) (by rfl)), rfl⟩
theorem q_964 : (Cond.methodLink RL 114 yX7_drawn) ∈ kW := List.mem_filter.mpr ⟨kt_4 (List.mem_of_getElem? (i := 216) (by rfl)), rfl⟩
theorem q_965 : (Cond.instanceMethod yX7_drawn) ∈ kW := List.mem_filter.mpr ⟨kt_4 (List.mem_of_getElem? (i := 217) (by rfl)), rfl⟩
theorem q_966 : (Cond.selects RX7 yX7_drawn yX7_drawn) ∈ kW := List.mem_filter.mpr ⟨kt_4 (List.mem_of_getElem? (i := 218) (by rfl)), rfl⟩
theorem q_967 : (Cond.code yX7_drawn cX7_drawn 4 (some .int)) ∈ kW := List.mem_filter.mpr ⟨kt_4 (List.mem_of_getElem? (i := 219) (by rfl)), rfl⟩
theorem q_968 : (Cond.constantLong RX7 236 6364136223846793005) ∈ kW := List.mem_filter.mpr ⟨kt_4 (List.mem_of_getElem? (i := 220) (by rfl)), rfl⟩
theorem q_969 : (Cond.constantLong RX7 238 1442695040888963407) ∈ kW := List.mem_filter.mpr ⟨kt_4 (List.mem_of_getElem? (i := 221) (by rfl)), rfl⟩
theorem q_970 : (Cond.methodLink RL 118 yX7_keep) ∈ kW := List.mem_filter.mpr ⟨kt_4 (List.mem_of_getElem? (i := 222) (by rfl)), rfl⟩
theorem q_971 : (Cond.instanceMethod yX7_keep) ∈ kW := List.mem_filter.mpr ⟨kt_4 (List.mem_of_getElem? (i := 223) (by rfl)), rfl⟩
theorem q_972 : (Cond.selects RX7 yX7_keep yX7_keep) ∈ kW := List.mem_filter.mpr ⟨kt_4 (List.mem_of_getElem? (i := 224) (by rfl)), rfl⟩
theorem q_973 : (Cond.code yX7_keep cX7_keep 3 (some .int)) ∈ kW := List.mem_filter.mpr ⟨kt_4 (List.mem_of_getElem? (i := 225) (by rfl)), rfl⟩
theorem q_974 : (Cond.methodLink RL 122 yX7_again) ∈ kW := List.mem_filter.mpr ⟨kt_4 (List.mem_of_getElem? (i := 226) (by rfl)), rfl⟩
theorem q_975 : (Cond.instanceMethod yX7_again) ∈ kW := List.mem_filter.mpr ⟨kt_4 (List.mem_of_getElem? (i := 227) (by rfl)), rfl⟩
theorem q_976 : (Cond.selects RX7 yX7_again yX7_again) ∈ kW := List.mem_filter.mpr ⟨kt_4 (List.mem_of_getElem? (i := 228) (by rfl)), rfl⟩
theorem q_977 : (Cond.code yX7_again cX7_again 3 (some .int)) ∈ kW := List.mem_filter.mpr ⟨kt_4 (List.mem_of_getElem? (i := 229) (by rfl)), rfl⟩
theorem q_978 : (Cond.methodLink RL 126 yX7_count) ∈ kW := List.mem_filter.mpr ⟨kt_4 (List.mem_of_getElem? (i := 230) (by rfl)), rfl⟩
theorem q_979 : (Cond.instanceMethod yX7_count) ∈ kW := List.mem_filter.mpr ⟨kt_4 (List.mem_of_getElem? (i := 231) (by rfl)), rfl⟩
theorem q_980 : (Cond.selects RX7 yX7_count yX7_count) ∈ kW := List.mem_filter.mpr ⟨kt_4 (List.mem_of_getElem? (i := 232) (by rfl)), rfl⟩
theorem q_981 : (Cond.code yX7_count cX7_count 2 (some .int)) ∈ kW := List.mem_filter.mpr ⟨kt_4 (List.mem_of_getElem? (i := 233) (by rfl)), rfl⟩
theorem q_982 : (Cond.constantLong RL 77 4294967295) ∈ kW := List.mem_filter.mpr ⟨kt_4 (List.mem_of_getElem? (i := 234) (by rfl)), rfl⟩
