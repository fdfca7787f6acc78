def RL : String := "NeededListsLaw"
def WL0 : List Cond := [.methodLink RL 7 yX11_put, .instanceMethod yX11_put, .selects RX11 yX11_put yX11_put, .initialized RX11, .code yX11_put cX11_put 3 (some .int), .classLink RL 13 "java/lang/UnsupportedOperationException", .methodLink RL 15 yX11_hole, .instanceMethod yX11_hole, .selects RX11 yX11_hole yX11_hole, .code yX11_hole cX11_hole 2 (some .int), .classLink RL 19 "java/lang/IllegalArgumentException", .methodLink RL 21 yX11_given, .instanceMethod yX11_given, .selects RX11 yX11_given yX11_given, .code yX11_given cX11_given 4 (some .int), .methodLink RL 25 yX11_count, .instanceMethod yX11_count, .selects RX11 yX11_count yX11_count, .code yX11_count cX11_count 7 (some .int), .methodLink RL 29 yX11_iterate, .instanceMethod yX11_iterate, .selects RX11 yX11_iterate yX11_iterate, .code yX11_iterate cX11_iterate 6 (some .int), .methodLink RL 33 yX11_map, .instanceMethod yX11_map, .selects RX11 yX11_map yX11_map, .code yX11_map cX11_map 6 (some .int), .classLink RL 37 "java/lang/IndexOutOfBoundsException", .methodLink RL 39 yX11_both, .instanceMethod yX11_both, .selects RX11 yX11_both yX11_both, .code yX11_both cX11_both 6 (some .int), .methodLink RL 43 yX11_scan, .instanceMethod yX11_scan, .selects RX11 yX11_scan yX11_scan, .code yX11_scan cX11_scan 6 (some .int), .methodLink RL 46 yX11_take, .instanceMethod yX11_take, .selects RX11 yX11_take yX11_take, .code yX11_take cX11_take 4 (some .int), .methodLink RL 50 yX11_drop, .instanceMethod yX11_drop, .selects RX11 yX11_drop yX11_drop, .code yX11_drop cX11_drop 4 (some .int), .methodLink RL 53 yX11_keep, .instanceMethod yX11_keep, .selects RX11 yX11_keep yX11_keep, .code yX11_keep cX11_keep 6 (some .int), .methodLink RL 56 yX11_during, .instanceMethod yX11_during, .selects RX11 yX11_during yX11_during, .code yX11_during cX11_during 6 (some .int), .methodLink RL 59 yX11_after, .instanceMethod yX11_after, .selects RX11 yX11_after yX11_after, .code yX11_after cX11_after 6 (some .int), .methodLink RL 62 yX11_join, .instanceMethod yX11_join, .selects RX11 yX11_join yX11_join, .code yX11_join cX11_join 5 (some .int), .methodLink RL 65 yX11_other, .instanceMethod yX11_other, .selects RX11 yX11_other yX11_other, .code yX11_other cX11_other 4 (some .int), .methodLink RL 68 yX11_steps, .instanceMethod yX11_steps, .selects RX11 yX11_steps yX11_steps, .code yX11_steps cX11_steps 3 (some .int), .methodLink RL 71 yX11_at, .instanceMethod yX11_at, .selects RX11 yX11_at yX11_at, .code yX11_at cX11_at 6 (some .long), .methodLink RL 75 yX11_size, .instanceMethod yX11_size, .selects RX11 yX11_size yX11_size, .code yX11_size cX11_size 4 (some .long), .methodLink RL 79 yX11_fold, .instanceMethod yX11_fold, .selects RX11 yX11_fold yX11_fold, .code yX11_fold cX11_fold 13 (some .long), .methodLink RL 83 yX11_find, .instanceMethod yX11_find, .selects RX11 yX11_find yX11_find, .code yX11_find cX11_find 9 (some .long), .methodLink RL 86 yX11_last, .instanceMethod yX11_last, .selects RX11 yX11_last yX11_last, .code yX11_last cX11_last 6 (some .long), .methodLink RL 89 yX11_reached, .instanceMethod yX11_reached, .selects RX11 yX11_reached yX11_reached, .code yX11_reached cX11_reached 2 (some .int), .methodLink RL 92 yX11_worked, .instanceMethod yX11_worked, .selects RX11 yX11_worked yX11_worked, .code yX11_worked cX11_worked 4 (some .boolean)]
def WL : List Cond := WL0 ++ WC
theorem mwL_0 : (.methodLink RL 7 yX11_put : Cond) ∈ WL := List.mem_of_getElem? (i := 0) rfl
theorem mwL_1 : (.instanceMethod yX11_put : Cond) ∈ WL := List.mem_of_getElem? (i := 1) rfl
theorem mwL_2 : (.selects RX11 yX11_put yX11_put : Cond) ∈ WL := List.mem_of_getElem? (i := 2) rfl
theorem mwL_3 : (.initialized RX11 : Cond) ∈ WL := List.mem_of_getElem? (i := 3) rfl
theorem mwL_4 : (.code yX11_put cX11_put 3 (some .int) : Cond) ∈ WL := List.mem_of_getElem? (i := 4) rfl
theorem mwL_5 : (.classLink RL 13 "java/lang/UnsupportedOperationException" : Cond) ∈ WL := List.mem_of_getElem? (i := 5) rfl
theorem mwL_6 : (.methodLink RL 15 yX11_hole : Cond) ∈ WL := List.mem_of_getElem? (i := 6) rfl
theorem mwL_7 : (.instanceMethod yX11_hole : Cond) ∈ WL := List.mem_of_getElem? (i := 7) rfl
theorem mwL_8 : (.selects RX11 yX11_hole yX11_hole : Cond) ∈ WL := List.mem_of_getElem? (i := 8) rfl
theorem mwL_9 : (.code yX11_hole cX11_hole 2 (some .int) : Cond) ∈ WL := List.mem_of_getElem? (i := 9) rfl
theorem mwL_10 : (.classLink RL 19 "java/lang/IllegalArgumentException" : Cond) ∈ WL := List.mem_of_getElem? (i := 10) rfl
theorem mwL_11 : (.methodLink RL 21 yX11_given : Cond) ∈ WL := List.mem_of_getElem? (i := 11) rfl
theorem mwL_12 : (.instanceMethod yX11_given : Cond) ∈ WL := List.mem_of_getElem? (i := 12) rfl
theorem mwL_13 : (.selects RX11 yX11_given yX11_given : Cond) ∈ WL := List.mem_of_getElem? (i := 13) rfl
theorem mwL_14 : (.code yX11_given cX11_given 4 (some .int) : Cond) ∈ WL := List.mem_of_getElem? (i := 14) rfl
theorem mwL_15 : (.methodLink RL 25 yX11_count : Cond) ∈ WL := List.mem_of_getElem? (i := 15) rfl
theorem mwL_16 : (.instanceMethod yX11_count : Cond) ∈ WL := List.mem_of_getElem? (i := 16) rfl
theorem mwL_17 : (.selects RX11 yX11_count yX11_count : Cond) ∈ WL := List.mem_of_getElem? (i := 17) rfl
theorem mwL_18 : (.code yX11_count cX11_count 7 (some .int) : Cond) ∈ WL := List.mem_of_getElem? (i := 18) rfl
theorem mwL_19 : (.methodLink RL 29 yX11_iterate : Cond) ∈ WL := List.mem_of_getElem? (i := 19) rfl
theorem mwL_20 : (.instanceMethod yX11_iterate : Cond) ∈ WL := List.mem_of_getElem? (i := 20) rfl
theorem mwL_21 : (.selects RX11 yX11_iterate yX11_iterate : Cond) ∈ WL := List.mem_of_getElem? (i := 21) rfl
theorem mwL_22 : (.code yX11_iterate cX11_iterate 6 (some .int) : Cond) ∈ WL := List.mem_of_getElem? (i := 22) rfl
theorem mwL_23 : (.methodLink RL 33 yX11_map : Cond) ∈ WL := List.mem_of_getElem? (i := 23) rfl
theorem mwL_24 : (.instanceMethod yX11_map : Cond) ∈ WL := List.mem_of_getElem? (i := 24) rfl
theorem mwL_25 : (.selects RX11 yX11_map yX11_map : Cond) ∈ WL := List.mem_of_getElem? (i := 25) rfl
theorem mwL_26 : (.code yX11_map cX11_map 6 (some .int) : Cond) ∈ WL := List.mem_of_getElem? (i := 26) rfl
theorem mwL_27 : (.classLink RL 37 "java/lang/IndexOutOfBoundsException" : Cond) ∈ WL := List.mem_of_getElem? (i := 27) rfl
theorem mwL_28 : (.methodLink RL 39 yX11_both : Cond) ∈ WL := List.mem_of_getElem? (i := 28) rfl
theorem mwL_29 : (.instanceMethod yX11_both : Cond) ∈ WL := List.mem_of_getElem? (i := 29) rfl
theorem mwL_30 : (.selects RX11 yX11_both yX11_both : Cond) ∈ WL := List.mem_of_getElem? (i := 30) rfl
theorem mwL_31 : (.code yX11_both cX11_both 6 (some .int) : Cond) ∈ WL := List.mem_of_getElem? (i := 31) rfl
theorem mwL_32 : (.methodLink RL 43 yX11_scan : Cond) ∈ WL := List.mem_of_getElem? (i := 32) rfl
theorem mwL_33 : (.instanceMethod yX11_scan : Cond) ∈ WL := List.mem_of_getElem? (i := 33) rfl
theorem mwL_34 : (.selects RX11 yX11_scan yX11_scan : Cond) ∈ WL := List.mem_of_getElem? (i := 34) rfl
theorem mwL_35 : (.code yX11_scan cX11_scan 6 (some .int) : Cond) ∈ WL := List.mem_of_getElem? (i := 35) rfl
theorem mwL_36 : (.methodLink RL 46 yX11_take : Cond) ∈ WL := List.mem_of_getElem? (i := 36) rfl
theorem mwL_37 : (.instanceMethod yX11_take : Cond) ∈ WL := List.mem_of_getElem? (i := 37) rfl
theorem mwL_38 : (.selects RX11 yX11_take yX11_take : Cond) ∈ WL := List.mem_of_getElem? (i := 38) rfl
theorem mwL_39 : (.code yX11_take cX11_take 4 (some .int) : Cond) ∈ WL := List.mem_of_getElem? (i := 39) rfl
theorem mwL_40 : (.methodLink RL 50 yX11_drop : Cond) ∈ WL := List.mem_of_getElem? (i := 40) rfl
theorem mwL_41 : (.instanceMethod yX11_drop : Cond) ∈ WL := List.mem_of_getElem? (i := 41) rfl
theorem mwL_42 : (.selects RX11 yX11_drop yX11_drop : Cond) ∈ WL := List.mem_of_getElem? (i := 42) rfl
theorem mwL_43 : (.code yX11_drop cX11_drop 4 (some .int) : Cond) ∈ WL := List.mem_of_getElem? (i := 43) rfl
theorem mwL_44 : (.methodLink RL 53 yX11_keep : Cond) ∈ WL := List.mem_of_getElem? (i := 44) rfl
theorem mwL_45 : (.instanceMethod yX11_keep : Cond) ∈ WL := List.mem_of_getElem? (i := 45) rfl
theorem mwL_46 : (.selects RX11 yX11_keep yX11_keep : Cond) ∈ WL := List.mem_of_getElem? (i := 46) rfl
theorem mwL_47 : (.code yX11_keep cX11_keep 6 (some .int) : Cond) ∈ WL := List.mem_of_getElem? (i := 47) rfl
theorem mwL_48 : (.methodLink RL 56 yX11_during : Cond) ∈ WL := List.mem_of_getElem? (i := 48) rfl
theorem mwL_49 : (.instanceMethod yX11_during : Cond) ∈ WL := List.mem_of_getElem? (i := 49) rfl
theorem mwL_50 : (.selects RX11 yX11_during yX11_during : Cond) ∈ WL := List.mem_of_getElem? (i := 50) rfl
theorem mwL_51 : (.code yX11_during cX11_during 6 (some .int) : Cond) ∈ WL := List.mem_of_getElem? (i := 51) rfl
theorem mwL_52 : (.methodLink RL 59 yX11_after : Cond) ∈ WL := List.mem_of_getElem? (i := 52) rfl
theorem mwL_53 : (.instanceMethod yX11_after : Cond) ∈ WL := List.mem_of_getElem? (i := 53) rfl
theorem mwL_54 : (.selects RX11 yX11_after yX11_after : Cond) ∈ WL := List.mem_of_getElem? (i := 54) rfl
theorem mwL_55 : (.code yX11_after cX11_after 6 (some .int) : Cond) ∈ WL := List.mem_of_getElem? (i := 55) rfl
theorem mwL_56 : (.methodLink RL 62 yX11_join : Cond) ∈ WL := List.mem_of_getElem? (i := 56) rfl
theorem mwL_57 : (.instanceMethod yX11_join : Cond) ∈ WL := List.mem_of_getElem? (i := 57) rfl
theorem mwL_58 : (.selects RX11 yX11_join yX11_join : Cond) ∈ WL := List.mem_of_getElem? (i := 58) rfl
theorem mwL_59 : (.code yX11_join cX11_join 5 (some .int) : Cond) ∈ WL := List.mem_of_getElem? (i := 59) rfl
theorem mwL_60 : (.methodLink RL 65 yX11_other : Cond) ∈ WL := List.mem_of_getElem? (i := 60) rfl
theorem mwL_61 : (.instanceMethod yX11_other : Cond) ∈ WL := List.mem_of_getElem? (i := 61) rfl
theorem mwL_62 : (.selects RX11 yX11_other yX11_other : Cond) ∈ WL := List.mem_of_getElem? (i := 62) rfl
theorem mwL_63 : (.code yX11_other cX11_other 4 (some .int) : Cond) ∈ WL := List.mem_of_getElem? (i := 63) rfl
theorem mwL_64 : (.methodLink RL 68 yX11_steps : Cond) ∈ WL := List.mem_of_getElem? (i := 64) rfl
theorem mwL_65 : (.instanceMethod yX11_steps : Cond) ∈ WL := List.mem_of_getElem? (i := 65) rfl
theorem mwL_66 : (.selects RX11 yX11_steps yX11_steps : Cond) ∈ WL := List.mem_of_getElem? (i := 66) rfl
theorem mwL_67 : (.code yX11_steps cX11_steps 3 (some .int) : Cond) ∈ WL := List.mem_of_getElem? (i := 67) rfl
theorem mwL_68 : (.methodLink RL 71 yX11_at : Cond) ∈ WL := List.mem_of_getElem? (i := 68) rfl
theorem mwL_69 : (.instanceMethod yX11_at : Cond) ∈ WL := List.mem_of_getElem? (i := 69) rfl
theorem mwL_70 : (.selects RX11 yX11_at yX11_at : Cond) ∈ WL := List.mem_of_getElem? (i := 70) rfl
theorem mwL_71 : (.code yX11_at cX11_at 6 (some .long) : Cond) ∈ WL := List.mem_of_getElem? (i := 71) rfl
theorem mwL_72 : (.methodLink RL 75 yX11_size : Cond) ∈ WL := List.mem_of_getElem? (i := 72) rfl
theorem mwL_73 : (.instanceMethod yX11_size : Cond) ∈ WL := List.mem_of_getElem? (i := 73) rfl
theorem mwL_74 : (.selects RX11 yX11_size yX11_size : Cond) ∈ WL := List.mem_of_getElem? (i := 74) rfl
theorem mwL_75 : (.code yX11_size cX11_size 4 (some .long) : Cond) ∈ WL := List.mem_of_getElem? (i := 75) rfl
theorem mwL_76 : (.methodLink RL 79 yX11_fold : Cond) ∈ WL := List.mem_of_getElem? (i := 76) rfl
theorem mwL_77 : (.instanceMethod yX11_fold : Cond) ∈ WL := List.mem_of_getElem? (i := 77) rfl
theorem mwL_78 : (.selects RX11 yX11_fold yX11_fold : Cond) ∈ WL := List.mem_of_getElem? (i := 78) rfl
theorem mwL_79 : (.code yX11_fold cX11_fold 13 (some .long) : Cond) ∈ WL := List.mem_of_getElem? (i := 79) rfl
theorem mwL_80 : (.methodLink RL 83 yX11_find : Cond) ∈ WL := List.mem_of_getElem? (i := 80) rfl
theorem mwL_81 : (.instanceMethod yX11_find : Cond) ∈ WL := List.mem_of_getElem? (i := 81) rfl
theorem mwL_82 : (.selects RX11 yX11_find yX11_find : Cond) ∈ WL := List.mem_of_getElem? (i := 82) rfl
theorem mwL_83 : (.code yX11_find cX11_find 9 (some .long) : Cond) ∈ WL := List.mem_of_getElem? (i := 83) rfl
theorem mwL_84 : (.methodLink RL 86 yX11_last : Cond) ∈ WL := List.mem_of_getElem? (i := 84) rfl
theorem mwL_85 : (.instanceMethod yX11_last : Cond) ∈ WL := List.mem_of_getElem? (i := 85) rfl
theorem mwL_86 : (.selects RX11 yX11_last yX11_last : Cond) ∈ WL := List.mem_of_getElem? (i := 86) rfl
theorem mwL_87 : (.code yX11_last cX11_last 6 (some .long) : Cond) ∈ WL := List.mem_of_getElem? (i := 87) rfl
theorem mwL_88 : (.methodLink RL 89 yX11_reached : Cond) ∈ WL := List.mem_of_getElem? (i := 88) rfl
theorem mwL_89 : (.instanceMethod yX11_reached : Cond) ∈ WL := List.mem_of_getElem? (i := 89) rfl
theorem mwL_90 : (.selects RX11 yX11_reached yX11_reached : Cond) ∈ WL := List.mem_of_getElem? (i := 90) rfl
theorem mwL_91 : (.code yX11_reached cX11_reached 2 (some .int) : Cond) ∈ WL := List.mem_of_getElem? (i := 91) rfl
theorem mwL_92 : (.methodLink RL 92 yX11_worked : Cond) ∈ WL := List.mem_of_getElem? (i := 92) rfl
theorem mwL_93 : (.instanceMethod yX11_worked : Cond) ∈ WL := List.mem_of_getElem? (i := 93) rfl
theorem mwL_94 : (.selects RX11 yX11_worked yX11_worked : Cond) ∈ WL := List.mem_of_getElem? (i := 94) rfl
theorem mwL_95 : (.code yX11_worked cX11_worked 4 (some .boolean) : Cond) ∈ WL := List.mem_of_getElem? (i := 95) rfl
theorem gdL : GoodIn WL WL := goodIn_sub (fun w h => h) (by decide +kernel)
theorem g_Vm {B W : List Cond} {c1 : Cond} {own : String} {idx : Nat} {C : String} {y : MethodName} (hg : GoodIn B B) (hW : GoodIn B W) (h1 : Cond.methodLink own idx y ∈ B) (h2 : Cond.instanceMethod y ∈ B) (h3 : Cond.selects C y y ∈ B) (h4 : Cond.initialized C ∈ B) (h5 : c1 ∈ B) : GoodIn B (wsV own idx C y (c1 :: W)) := by
  refine g_Vb hW (fun w hw => ?_)
  simp only [List.mem_cons, List.not_mem_nil, or_false] at hw
  rcases hw with rfl | rfl | rfl | rfl | rfl
  · exact hg _ h1
  · exact hg _ h2
  · exact hg _ h3
  · exact hg _ h4
  · exact hg _ h5
theorem gdLC : GoodIn WL WC := fun w h => gdL w (List.mem_append_right _ h)
