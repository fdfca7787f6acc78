theorem good_mi : (wsV RX12 84 RX12 yX12_isList wsX12_isList).all goodWord = true := by decide +kernel
theorem good_mf : (wsV RX12 72 RX12 yX12_fail wsX12_fail).all goodWord = true := by decide +kernel
def vsX12_at : List Cond := .code yX12_at cX12_at 5 (some .long) :: (Cond.fieldLink RX12 63 "NeededListsModel" "thrown" "I" :: (wsV RX12 84 RX12 yX12_isList wsX12_isList ++ wsV RX12 72 RX12 yX12_fail wsX12_fail))
theorem hX12i_at : GoodIn vsX12_at (wsV RX12 84 RX12 yX12_isList wsX12_isList) := fun w h => ⟨List.mem_cons_of_mem _ (List.mem_cons_of_mem _ (List.mem_append_left _ h)), good_of_word (List.all_eq_true.mp good_mi w h)⟩
theorem hX12f_at : GoodIn vsX12_at (wsV RX12 72 RX12 yX12_fail wsX12_fail) := fun w h => ⟨List.mem_cons_of_mem _ (List.mem_cons_of_mem _ (List.mem_append_right _ h)), good_of_word (List.all_eq_true.mp good_mf w h)⟩
def vsX12_size : List Cond := .code yX12_size cX12_size 4 (some .long) :: (Cond.fieldLink RX12 63 "NeededListsModel" "thrown" "I" :: (wsV RX12 84 RX12 yX12_isList wsX12_isList ++ wsV RX12 72 RX12 yX12_fail wsX12_fail))
theorem hX12i_size : GoodIn vsX12_size (wsV RX12 84 RX12 yX12_isList wsX12_isList) := fun w h => ⟨List.mem_cons_of_mem _ (List.mem_cons_of_mem _ (List.mem_append_left _ h)), good_of_word (List.all_eq_true.mp good_mi w h)⟩
theorem hX12f_size : GoodIn vsX12_size (wsV RX12 72 RX12 yX12_fail wsX12_fail) := fun w h => ⟨List.mem_cons_of_mem _ (List.mem_cons_of_mem _ (List.mem_append_right _ h)), good_of_word (List.all_eq_true.mp good_mf w h)⟩
def vsX12_fold : List Cond := .code yX12_fold cX12_fold 9 (some .long) :: (Cond.fieldLink RX12 63 "NeededListsModel" "thrown" "I" :: (wsV RX12 84 RX12 yX12_isList wsX12_isList ++ wsV RX12 72 RX12 yX12_fail wsX12_fail))
theorem hX12i_fold : GoodIn vsX12_fold (wsV RX12 84 RX12 yX12_isList wsX12_isList) := fun w h => ⟨List.mem_cons_of_mem _ (List.mem_cons_of_mem _ (List.mem_append_left _ h)), good_of_word (List.all_eq_true.mp good_mi w h)⟩
theorem hX12f_fold : GoodIn vsX12_fold (wsV RX12 72 RX12 yX12_fail wsX12_fail) := fun w h => ⟨List.mem_cons_of_mem _ (List.mem_cons_of_mem _ (List.mem_append_right _ h)), good_of_word (List.all_eq_true.mp good_mf w h)⟩
def vsX12_find : List Cond := .code yX12_find cX12_find 7 (some .long) :: (Cond.fieldLink RX12 63 "NeededListsModel" "thrown" "I" :: (wsV RX12 84 RX12 yX12_isList wsX12_isList ++ wsV RX12 72 RX12 yX12_fail wsX12_fail))
theorem hX12i_find : GoodIn vsX12_find (wsV RX12 84 RX12 yX12_isList wsX12_isList) := fun w h => ⟨List.mem_cons_of_mem _ (List.mem_cons_of_mem _ (List.mem_append_left _ h)), good_of_word (List.all_eq_true.mp good_mi w h)⟩
theorem hX12f_find : GoodIn vsX12_find (wsV RX12 72 RX12 yX12_fail wsX12_fail) := fun w h => ⟨List.mem_cons_of_mem _ (List.mem_cons_of_mem _ (List.mem_append_right _ h)), good_of_word (List.all_eq_true.mp good_mf w h)⟩
def vsX12_last : List Cond := .code yX12_last cX12_last 4 (some .long) :: (Cond.fieldLink RX12 63 "NeededListsModel" "thrown" "I" :: (wsV RX12 84 RX12 yX12_isList wsX12_isList ++ wsV RX12 72 RX12 yX12_fail wsX12_fail))
theorem hX12i_last : GoodIn vsX12_last (wsV RX12 84 RX12 yX12_isList wsX12_isList) := fun w h => ⟨List.mem_cons_of_mem _ (List.mem_cons_of_mem _ (List.mem_append_left _ h)), good_of_word (List.all_eq_true.mp good_mi w h)⟩
theorem hX12f_last : GoodIn vsX12_last (wsV RX12 72 RX12 yX12_fail wsX12_fail) := fun w h => ⟨List.mem_cons_of_mem _ (List.mem_cons_of_mem _ (List.mem_append_right _ h)), good_of_word (List.all_eq_true.mp good_mf w h)⟩
def vsX12_reached : List Cond := .code yX12_reached cX12_reached 3 (some .int) :: (Cond.fieldLink RX12 63 "NeededListsModel" "thrown" "I" :: (wsV RX12 84 RX12 yX12_isList wsX12_isList ++ wsV RX12 72 RX12 yX12_fail wsX12_fail))
theorem hX12i_reached : GoodIn vsX12_reached (wsV RX12 84 RX12 yX12_isList wsX12_isList) := fun w h => ⟨List.mem_cons_of_mem _ (List.mem_cons_of_mem _ (List.mem_append_left _ h)), good_of_word (List.all_eq_true.mp good_mi w h)⟩
theorem hX12f_reached : GoodIn vsX12_reached (wsV RX12 72 RX12 yX12_fail wsX12_fail) := fun w h => ⟨List.mem_cons_of_mem _ (List.mem_cons_of_mem _ (List.mem_append_right _ h)), good_of_word (List.all_eq_true.mp good_mf w h)⟩
def vsX12_worked : List Cond := .code yX12_worked cX12_worked 3 (some .boolean) :: (Cond.fieldLink RX12 63 "NeededListsModel" "thrown" "I" :: (wsV RX12 84 RX12 yX12_isList wsX12_isList ++ wsV RX12 72 RX12 yX12_fail wsX12_fail))
theorem hX12i_worked : GoodIn vsX12_worked (wsV RX12 84 RX12 yX12_isList wsX12_isList) := fun w h => ⟨List.mem_cons_of_mem _ (List.mem_cons_of_mem _ (List.mem_append_left _ h)), good_of_word (List.all_eq_true.mp good_mi w h)⟩
theorem hX12f_worked : GoodIn vsX12_worked (wsV RX12 72 RX12 yX12_fail wsX12_fail) := fun w h => ⟨List.mem_cons_of_mem _ (List.mem_cons_of_mem _ (List.mem_append_right _ h)), good_of_word (List.all_eq_true.mp good_mf w h)⟩
theorem good_lo : (wsV RX11 87 RX11 yX11_listOf wsX11_listOf).all goodWord = true := by decide +kernel
def vsX11_map : List Cond := .code yX11_map cX11_map 6 (some .int) :: wsV RX11 87 RX11 yX11_listOf wsX11_listOf
theorem hX11_map : GoodIn vsX11_map (wsV RX11 87 RX11 yX11_listOf wsX11_listOf) := fun w h => ⟨List.mem_cons_of_mem _ h, good_of_word (List.all_eq_true.mp good_lo w h)⟩
def vsL_map : List Cond := .codeWith yL_map cL_map 7 (some .int) [(0, 12, 15, 37), (0, 12, 19, 19), (0, 12, 23, 13)] :: (Cond.classLink RL 37 "java/lang/IndexOutOfBoundsException" :: wsV RL 33 RX11 yX11_map vsX11_map)
theorem hLg_map : (wsV RL 33 RX11 yX11_map vsX11_map).all goodWord = true := by
  show (([.methodLink RL 33 yX11_map, .instanceMethod yX11_map, .selects RX11 yX11_map yX11_map, .initialized RX11, .code yX11_map cX11_map 6 (some .int)] : List Cond) ++ wsV RX11 87 RX11 yX11_listOf wsX11_listOf).all goodWord = true
  rw [List.all_append, good_lo, Bool.and_true]; decide +kernel
theorem hL_map : GoodIn vsL_map (wsV RL 33 RX11 yX11_map vsX11_map) := fun w h => ⟨List.mem_cons_of_mem _ (List.mem_cons_of_mem _ h), good_of_word (List.all_eq_true.mp hLg_map w h)⟩
def vsX11_both : List Cond := .code yX11_both cX11_both 6 (some .int) :: wsV RX11 87 RX11 yX11_listOf wsX11_listOf
theorem hX11_both : GoodIn vsX11_both (wsV RX11 87 RX11 yX11_listOf wsX11_listOf) := fun w h => ⟨List.mem_cons_of_mem _ h, good_of_word (List.all_eq_true.mp good_lo w h)⟩
def vsL_both : List Cond := .codeWith yL_both cL_both 6 (some .int) [(0, 12, 15, 37), (0, 12, 19, 19), (0, 12, 23, 13)] :: (Cond.classLink RL 37 "java/lang/IndexOutOfBoundsException" :: wsV RL 39 RX11 yX11_both vsX11_both)
theorem hLg_both : (wsV RL 39 RX11 yX11_both vsX11_both).all goodWord = true := by
  show (([.methodLink RL 39 yX11_both, .instanceMethod yX11_both, .selects RX11 yX11_both yX11_both, .initialized RX11, .code yX11_both cX11_both 6 (some .int)] : List Cond) ++ wsV RX11 87 RX11 yX11_listOf wsX11_listOf).all goodWord = true
  rw [List.all_append, good_lo, Bool.and_true]; decide +kernel
theorem hL_both : GoodIn vsL_both (wsV RL 39 RX11 yX11_both vsX11_both) := fun w h => ⟨List.mem_cons_of_mem _ (List.mem_cons_of_mem _ h), good_of_word (List.all_eq_true.mp hLg_both w h)⟩
def vsX11_scan : List Cond := .code yX11_scan cX11_scan 6 (some .int) :: wsV RX11 87 RX11 yX11_listOf wsX11_listOf
theorem hX11_scan : GoodIn vsX11_scan (wsV RX11 87 RX11 yX11_listOf wsX11_listOf) := fun w h => ⟨List.mem_cons_of_mem _ h, good_of_word (List.all_eq_true.mp good_lo w h)⟩
def vsL_scan : List Cond := .codeWith yL_scan cL_scan 7 (some .int) [(0, 12, 15, 37), (0, 12, 19, 19), (0, 12, 23, 13)] :: (Cond.classLink RL 37 "java/lang/IndexOutOfBoundsException" :: wsV RL 43 RX11 yX11_scan vsX11_scan)
theorem hLg_scan : (wsV RL 43 RX11 yX11_scan vsX11_scan).all goodWord = true := by
  show (([.methodLink RL 43 yX11_scan, .instanceMethod yX11_scan, .selects RX11 yX11_scan yX11_scan, .initialized RX11, .code yX11_scan cX11_scan 6 (some .int)] : List Cond) ++ wsV RX11 87 RX11 yX11_listOf wsX11_listOf).all goodWord = true
  rw [List.all_append, good_lo, Bool.and_true]; decide +kernel
theorem hL_scan : GoodIn vsL_scan (wsV RL 43 RX11 yX11_scan vsX11_scan) := fun w h => ⟨List.mem_cons_of_mem _ (List.mem_cons_of_mem _ h), good_of_word (List.all_eq_true.mp hLg_scan w h)⟩
def vsX11_take : List Cond := .code yX11_take cX11_take 4 (some .int) :: wsV RX11 87 RX11 yX11_listOf wsX11_listOf
theorem hX11_take : GoodIn vsX11_take (wsV RX11 87 RX11 yX11_listOf wsX11_listOf) := fun w h => ⟨List.mem_cons_of_mem _ h, good_of_word (List.all_eq_true.mp good_lo w h)⟩
def vsL_take : List Cond := .codeWith yL_take cL_take 5 (some .int) [(0, 10, 13, 37), (0, 10, 17, 19), (0, 10, 21, 13)] :: (Cond.classLink RL 37 "java/lang/IndexOutOfBoundsException" :: wsV RL 46 RX11 yX11_take vsX11_take)
theorem hLg_take : (wsV RL 46 RX11 yX11_take vsX11_take).all goodWord = true := by
  show (([.methodLink RL 46 yX11_take, .instanceMethod yX11_take, .selects RX11 yX11_take yX11_take, .initialized RX11, .code yX11_take cX11_take 4 (some .int)] : List Cond) ++ wsV RX11 87 RX11 yX11_listOf wsX11_listOf).all goodWord = true
  rw [List.all_append, good_lo, Bool.and_true]; decide +kernel
theorem hL_take : GoodIn vsL_take (wsV RL 46 RX11 yX11_take vsX11_take) := fun w h => ⟨List.mem_cons_of_mem _ (List.mem_cons_of_mem _ h), good_of_word (List.all_eq_true.mp hLg_take w h)⟩
def vsX11_drop : List Cond := .code yX11_drop cX11_drop 4 (some .int) :: wsV RX11 87 RX11 yX11_listOf wsX11_listOf
theorem hX11_drop : GoodIn vsX11_drop (wsV RX11 87 RX11 yX11_listOf wsX11_listOf) := fun w h => ⟨List.mem_cons_of_mem _ h, good_of_word (List.all_eq_true.mp good_lo w h)⟩
def vsL_drop : List Cond := .codeWith yL_drop cL_drop 5 (some .int) [(0, 10, 13, 37), (0, 10, 17, 19), (0, 10, 21, 13)] :: (Cond.classLink RL 37 "java/lang/IndexOutOfBoundsException" :: wsV RL 50 RX11 yX11_drop vsX11_drop)
theorem hLg_drop : (wsV RL 50 RX11 yX11_drop vsX11_drop).all goodWord = true := by
  show (([.methodLink RL 50 yX11_drop, .instanceMethod yX11_drop, .selects RX11 yX11_drop yX11_drop, .initialized RX11, .code yX11_drop cX11_drop 4 (some .int)] : List Cond) ++ wsV RX11 87 RX11 yX11_listOf wsX11_listOf).all goodWord = true
  rw [List.all_append, good_lo, Bool.and_true]; decide +kernel
theorem hL_drop : GoodIn vsL_drop (wsV RL 50 RX11 yX11_drop vsX11_drop) := fun w h => ⟨List.mem_cons_of_mem _ (List.mem_cons_of_mem _ h), good_of_word (List.all_eq_true.mp hLg_drop w h)⟩
def vsX11_keep : List Cond := .code yX11_keep cX11_keep 6 (some .int) :: wsV RX11 87 RX11 yX11_listOf wsX11_listOf
theorem hX11_keep : GoodIn vsX11_keep (wsV RX11 87 RX11 yX11_listOf wsX11_listOf) := fun w h => ⟨List.mem_cons_of_mem _ h, good_of_word (List.all_eq_true.mp good_lo w h)⟩
def vsL_keep : List Cond := .codeWith yL_keep cL_keep 7 (some .int) [(0, 12, 15, 37), (0, 12, 19, 19), (0, 12, 23, 13)] :: (Cond.classLink RL 37 "java/lang/IndexOutOfBoundsException" :: wsV RL 53 RX11 yX11_keep vsX11_keep)
theorem hLg_keep : (wsV RL 53 RX11 yX11_keep vsX11_keep).all goodWord = true := by
  show (([.methodLink RL 53 yX11_keep, .instanceMethod yX11_keep, .selects RX11 yX11_keep yX11_keep, .initialized RX11, .code yX11_keep cX11_keep 6 (some .int)] : List Cond) ++ wsV RX11 87 RX11 yX11_listOf wsX11_listOf).all goodWord = true
  rw [List.all_append, good_lo, Bool.and_true]; decide +kernel
theorem hL_keep : GoodIn vsL_keep (wsV RL 53 RX11 yX11_keep vsX11_keep) := fun w h => ⟨List.mem_cons_of_mem _ (List.mem_cons_of_mem _ h), good_of_word (List.all_eq_true.mp hLg_keep w h)⟩
def vsX11_during : List Cond := .code yX11_during cX11_during 6 (some .int) :: wsV RX11 87 RX11 yX11_listOf wsX11_listOf
theorem hX11_during : GoodIn vsX11_during (wsV RX11 87 RX11 yX11_listOf wsX11_listOf) := fun w h => ⟨List.mem_cons_of_mem _ h, good_of_word (List.all_eq_true.mp good_lo w h)⟩
def vsL_during : List Cond := .codeWith yL_during cL_during 7 (some .int) [(0, 12, 15, 37), (0, 12, 19, 19), (0, 12, 23, 13)] :: (Cond.classLink RL 37 "java/lang/IndexOutOfBoundsException" :: wsV RL 56 RX11 yX11_during vsX11_during)
theorem hLg_during : (wsV RL 56 RX11 yX11_during vsX11_during).all goodWord = true := by
  show (([.methodLink RL 56 yX11_during, .instanceMethod yX11_during, .selects RX11 yX11_during yX11_during, .initialized RX11, .code yX11_during cX11_during 6 (some .int)] : List Cond) ++ wsV RX11 87 RX11 yX11_listOf wsX11_listOf).all goodWord = true
  rw [List.all_append, good_lo, Bool.and_true]; decide +kernel
theorem hL_during : GoodIn vsL_during (wsV RL 56 RX11 yX11_during vsX11_during) := fun w h => ⟨List.mem_cons_of_mem _ (List.mem_cons_of_mem _ h), good_of_word (List.all_eq_true.mp hLg_during w h)⟩
def vsX11_after : List Cond := .code yX11_after cX11_after 6 (some .int) :: wsV RX11 87 RX11 yX11_listOf wsX11_listOf
theorem hX11_after : GoodIn vsX11_after (wsV RX11 87 RX11 yX11_listOf wsX11_listOf) := fun w h => ⟨List.mem_cons_of_mem _ h, good_of_word (List.all_eq_true.mp good_lo w h)⟩
def vsL_after : List Cond := .codeWith yL_after cL_after 7 (some .int) [(0, 12, 15, 37), (0, 12, 19, 19), (0, 12, 23, 13)] :: (Cond.classLink RL 37 "java/lang/IndexOutOfBoundsException" :: wsV RL 59 RX11 yX11_after vsX11_after)
theorem hLg_after : (wsV RL 59 RX11 yX11_after vsX11_after).all goodWord = true := by
  show (([.methodLink RL 59 yX11_after, .instanceMethod yX11_after, .selects RX11 yX11_after yX11_after, .initialized RX11, .code yX11_after cX11_after 6 (some .int)] : List Cond) ++ wsV RX11 87 RX11 yX11_listOf wsX11_listOf).all goodWord = true
  rw [List.all_append, good_lo, Bool.and_true]; decide +kernel
theorem hL_after : GoodIn vsL_after (wsV RL 59 RX11 yX11_after vsX11_after) := fun w h => ⟨List.mem_cons_of_mem _ (List.mem_cons_of_mem _ h), good_of_word (List.all_eq_true.mp hLg_after w h)⟩
def vsX11_join : List Cond := .code yX11_join cX11_join 5 (some .int) :: wsV RX11 87 RX11 yX11_listOf wsX11_listOf
theorem hX11_join : GoodIn vsX11_join (wsV RX11 87 RX11 yX11_listOf wsX11_listOf) := fun w h => ⟨List.mem_cons_of_mem _ h, good_of_word (List.all_eq_true.mp good_lo w h)⟩
def vsL_join : List Cond := .codeWith yL_join cL_join 5 (some .int) [(0, 10, 13, 37), (0, 10, 17, 13)] :: (Cond.classLink RL 37 "java/lang/IndexOutOfBoundsException" :: wsV RL 62 RX11 yX11_join vsX11_join)
theorem hLg_join : (wsV RL 62 RX11 yX11_join vsX11_join).all goodWord = true := by
  show (([.methodLink RL 62 yX11_join, .instanceMethod yX11_join, .selects RX11 yX11_join yX11_join, .initialized RX11, .code yX11_join cX11_join 5 (some .int)] : List Cond) ++ wsV RX11 87 RX11 yX11_listOf wsX11_listOf).all goodWord = true
  rw [List.all_append, good_lo, Bool.and_true]; decide +kernel
theorem hL_join : GoodIn vsL_join (wsV RL 62 RX11 yX11_join vsX11_join) := fun w h => ⟨List.mem_cons_of_mem _ (List.mem_cons_of_mem _ h), good_of_word (List.all_eq_true.mp hLg_join w h)⟩
def vsX11_other : List Cond := .code yX11_other cX11_other 4 (some .int) :: wsV RX11 87 RX11 yX11_listOf wsX11_listOf
theorem hX11_other : GoodIn vsX11_other (wsV RX11 87 RX11 yX11_listOf wsX11_listOf) := fun w h => ⟨List.mem_cons_of_mem _ h, good_of_word (List.all_eq_true.mp good_lo w h)⟩
def vsL_other : List Cond := .codeWith yL_other cL_other 5 (some .int) [(0, 10, 13, 37), (0, 10, 17, 19), (0, 10, 21, 13)] :: (Cond.classLink RL 37 "java/lang/IndexOutOfBoundsException" :: wsV RL 65 RX11 yX11_other vsX11_other)
theorem hLg_other : (wsV RL 65 RX11 yX11_other vsX11_other).all goodWord = true := by
  show (([.methodLink RL 65 yX11_other, .instanceMethod yX11_other, .selects RX11 yX11_other yX11_other, .initialized RX11, .code yX11_other cX11_other 4 (some .int)] : List Cond) ++ wsV RX11 87 RX11 yX11_listOf wsX11_listOf).all goodWord = true
  rw [List.all_append, good_lo, Bool.and_true]; decide +kernel
theorem hL_other : GoodIn vsL_other (wsV RL 65 RX11 yX11_other vsX11_other) := fun w h => ⟨List.mem_cons_of_mem _ (List.mem_cons_of_mem _ h), good_of_word (List.all_eq_true.mp hLg_other w h)⟩
def vsX11_at : List Cond := .code yX11_at cX11_at 6 (some .long) :: wsV RX11 87 RX11 yX11_listOf wsX11_listOf
theorem hX11_at : GoodIn vsX11_at (wsV RX11 87 RX11 yX11_listOf wsX11_listOf) := fun w h => ⟨List.mem_cons_of_mem _ h, good_of_word (List.all_eq_true.mp good_lo w h)⟩
def vsL_at : List Cond := .codeWith yL_at cL_at 5 (some .int) [(0, 9, 12, 37), (0, 9, 16, 19)] :: (Cond.classLink RL 37 "java/lang/IndexOutOfBoundsException" :: wsV RL 71 RX11 yX11_at vsX11_at)
theorem hLg_at : (wsV RL 71 RX11 yX11_at vsX11_at).all goodWord = true := by
  show (([.methodLink RL 71 yX11_at, .instanceMethod yX11_at, .selects RX11 yX11_at yX11_at, .initialized RX11, .code yX11_at cX11_at 6 (some .long)] : List Cond) ++ wsV RX11 87 RX11 yX11_listOf wsX11_listOf).all goodWord = true
  rw [List.all_append, good_lo, Bool.and_true]; decide +kernel
theorem hL_at : GoodIn vsL_at (wsV RL 71 RX11 yX11_at vsX11_at) := fun w h => ⟨List.mem_cons_of_mem _ (List.mem_cons_of_mem _ h), good_of_word (List.all_eq_true.mp hLg_at w h)⟩
def vsX11_size : List Cond := .code yX11_size cX11_size 4 (some .long) :: wsV RX11 87 RX11 yX11_listOf wsX11_listOf
theorem hX11_size : GoodIn vsX11_size (wsV RX11 87 RX11 yX11_listOf wsX11_listOf) := fun w h => ⟨List.mem_cons_of_mem _ h, good_of_word (List.all_eq_true.mp good_lo w h)⟩
def vsL_size : List Cond := .codeWith yL_size cL_size 4 (some .int) [(0, 8, 11, 37)] :: (Cond.classLink RL 37 "java/lang/IndexOutOfBoundsException" :: wsV RL 75 RX11 yX11_size vsX11_size)
theorem hLg_size : (wsV RL 75 RX11 yX11_size vsX11_size).all goodWord = true := by
  show (([.methodLink RL 75 yX11_size, .instanceMethod yX11_size, .selects RX11 yX11_size yX11_size, .initialized RX11, .code yX11_size cX11_size 4 (some .long)] : List Cond) ++ wsV RX11 87 RX11 yX11_listOf wsX11_listOf).all goodWord = true
  rw [List.all_append, good_lo, Bool.and_true]; decide +kernel
theorem hL_size : GoodIn vsL_size (wsV RL 75 RX11 yX11_size vsX11_size) := fun w h => ⟨List.mem_cons_of_mem _ (List.mem_cons_of_mem _ h), good_of_word (List.all_eq_true.mp hLg_size w h)⟩
def vsX11_fold : List Cond := .code yX11_fold cX11_fold 13 (some .long) :: wsV RX11 87 RX11 yX11_listOf wsX11_listOf
theorem hX11_fold : GoodIn vsX11_fold (wsV RX11 87 RX11 yX11_listOf wsX11_listOf) := fun w h => ⟨List.mem_cons_of_mem _ h, good_of_word (List.all_eq_true.mp good_lo w h)⟩
def vsL_fold : List Cond := .codeWith yL_fold cL_fold 7 (some .int) [(0, 11, 14, 37), (0, 11, 18, 19)] :: (Cond.classLink RL 37 "java/lang/IndexOutOfBoundsException" :: wsV RL 79 RX11 yX11_fold vsX11_fold)
theorem hLg_fold : (wsV RL 79 RX11 yX11_fold vsX11_fold).all goodWord = true := by
  show (([.methodLink RL 79 yX11_fold, .instanceMethod yX11_fold, .selects RX11 yX11_fold yX11_fold, .initialized RX11, .code yX11_fold cX11_fold 13 (some .long)] : List Cond) ++ wsV RX11 87 RX11 yX11_listOf wsX11_listOf).all goodWord = true
  rw [List.all_append, good_lo, Bool.and_true]; decide +kernel
theorem hL_fold : GoodIn vsL_fold (wsV RL 79 RX11 yX11_fold vsX11_fold) := fun w h => ⟨List.mem_cons_of_mem _ (List.mem_cons_of_mem _ h), good_of_word (List.all_eq_true.mp hLg_fold w h)⟩
def vsX11_find : List Cond := .code yX11_find cX11_find 9 (some .long) :: wsV RX11 87 RX11 yX11_listOf wsX11_listOf
theorem hX11_find : GoodIn vsX11_find (wsV RX11 87 RX11 yX11_listOf wsX11_listOf) := fun w h => ⟨List.mem_cons_of_mem _ h, good_of_word (List.all_eq_true.mp good_lo w h)⟩
def vsL_find : List Cond := .codeWith yL_find cL_find 7 (some .int) [(0, 11, 14, 37), (0, 11, 18, 19)] :: (Cond.classLink RL 37 "java/lang/IndexOutOfBoundsException" :: wsV RL 83 RX11 yX11_find vsX11_find)
theorem hLg_find : (wsV RL 83 RX11 yX11_find vsX11_find).all goodWord = true := by
  show (([.methodLink RL 83 yX11_find, .instanceMethod yX11_find, .selects RX11 yX11_find yX11_find, .initialized RX11, .code yX11_find cX11_find 9 (some .long)] : List Cond) ++ wsV RX11 87 RX11 yX11_listOf wsX11_listOf).all goodWord = true
  rw [List.all_append, good_lo, Bool.and_true]; decide +kernel
theorem hL_find : GoodIn vsL_find (wsV RL 83 RX11 yX11_find vsX11_find) := fun w h => ⟨List.mem_cons_of_mem _ (List.mem_cons_of_mem _ h), good_of_word (List.all_eq_true.mp hLg_find w h)⟩
def vsX11_last : List Cond := .code yX11_last cX11_last 6 (some .long) :: wsV RX11 87 RX11 yX11_listOf wsX11_listOf
theorem hX11_last : GoodIn vsX11_last (wsV RX11 87 RX11 yX11_listOf wsX11_listOf) := fun w h => ⟨List.mem_cons_of_mem _ h, good_of_word (List.all_eq_true.mp good_lo w h)⟩
def vsL_last : List Cond := .codeWith yL_last cL_last 4 (some .int) [(0, 8, 11, 37)] :: (Cond.classLink RL 37 "java/lang/IndexOutOfBoundsException" :: wsV RL 86 RX11 yX11_last vsX11_last)
theorem hLg_last : (wsV RL 86 RX11 yX11_last vsX11_last).all goodWord = true := by
  show (([.methodLink RL 86 yX11_last, .instanceMethod yX11_last, .selects RX11 yX11_last yX11_last, .initialized RX11, .code yX11_last cX11_last 6 (some .long)] : List Cond) ++ wsV RX11 87 RX11 yX11_listOf wsX11_listOf).all goodWord = true
  rw [List.all_append, good_lo, Bool.and_true]; decide +kernel
theorem hL_last : GoodIn vsL_last (wsV RL 86 RX11 yX11_last vsX11_last) := fun w h => ⟨List.mem_cons_of_mem _ (List.mem_cons_of_mem _ h), good_of_word (List.all_eq_true.mp hLg_last w h)⟩
def vsX11_reached : List Cond := .code yX11_reached cX11_reached 2 (some .int) :: wsV RX11 87 RX11 yX11_listOf wsX11_listOf
theorem hX11_reached : GoodIn vsX11_reached (wsV RX11 87 RX11 yX11_listOf wsX11_listOf) := fun w h => ⟨List.mem_cons_of_mem _ h, good_of_word (List.all_eq_true.mp good_lo w h)⟩
def vsL_reached : List Cond := .codeWith yL_reached cL_reached 4 (some .int) [(0, 9, 12, 37)] :: (Cond.classLink RL 37 "java/lang/IndexOutOfBoundsException" :: wsV RL 89 RX11 yX11_reached vsX11_reached)
theorem hLg_reached : (wsV RL 89 RX11 yX11_reached vsX11_reached).all goodWord = true := by
  show (([.methodLink RL 89 yX11_reached, .instanceMethod yX11_reached, .selects RX11 yX11_reached yX11_reached, .initialized RX11, .code yX11_reached cX11_reached 2 (some .int)] : List Cond) ++ wsV RX11 87 RX11 yX11_listOf wsX11_listOf).all goodWord = true
  rw [List.all_append, good_lo, Bool.and_true]; decide +kernel
theorem hL_reached : GoodIn vsL_reached (wsV RL 89 RX11 yX11_reached vsX11_reached) := fun w h => ⟨List.mem_cons_of_mem _ (List.mem_cons_of_mem _ h), good_of_word (List.all_eq_true.mp hLg_reached w h)⟩
def vsX11_worked : List Cond := .code yX11_worked cX11_worked 4 (some .boolean) :: wsV RX11 87 RX11 yX11_listOf wsX11_listOf
theorem hX11_worked : GoodIn vsX11_worked (wsV RX11 87 RX11 yX11_listOf wsX11_listOf) := fun w h => ⟨List.mem_cons_of_mem _ h, good_of_word (List.all_eq_true.mp good_lo w h)⟩
def vsL_worked : List Cond := .codeWith yL_worked cL_worked 5 (some .int) [(0, 17, 20, 37)] :: (Cond.classLink RL 37 "java/lang/IndexOutOfBoundsException" :: wsV RL 92 RX11 yX11_worked vsX11_worked)
theorem hLg_worked : (wsV RL 92 RX11 yX11_worked vsX11_worked).all goodWord = true := by
  show (([.methodLink RL 92 yX11_worked, .instanceMethod yX11_worked, .selects RX11 yX11_worked yX11_worked, .initialized RX11, .code yX11_worked cX11_worked 4 (some .boolean)] : List Cond) ++ wsV RX11 87 RX11 yX11_listOf wsX11_listOf).all goodWord = true
  rw [List.all_append, good_lo, Bool.and_true]; decide +kernel
theorem hL_worked : GoodIn vsL_worked (wsV RL 92 RX11 yX11_worked vsX11_worked) := fun w h => ⟨List.mem_cons_of_mem _ (List.mem_cons_of_mem _ h), good_of_word (List.all_eq_true.mp hLg_worked w h)⟩
