theorem tb_0 {w : Cond} (h : w ∈ tables_1) : w ∈ lw_tbl := List.mem_append_right _ h
theorem tb_1 {w : Cond} (h : w ∈ tables_1_1) : w ∈ lw_tbl := tb_0 (List.mem_append_left _ h)
theorem tb_2 {w : Cond} (h : w ∈ tables_1_2) : w ∈ lw_tbl := tb_0 (List.mem_append_right _ (List.mem_append_left _ h))
theorem tb_3 {w : Cond} (h : w ∈ tables_1_3) : w ∈ lw_tbl := tb_0 (List.mem_append_right _ (List.mem_append_right _ (List.mem_append_left _ h)))
theorem tb_4 {w : Cond} (h : w ∈ tables_1_4) : w ∈ lw_tbl := tb_0 (List.mem_append_right _ (List.mem_append_right _ (List.mem_append_right _ (List.mem_append_left _ h))))
theorem tb_5 {w : Cond} (h : w ∈ tables_1_5) : w ∈ lw_tbl := tb_0 (List.mem_append_right _ (List.mem_append_right _ (List.mem_append_right _ (List.mem_append_right _ (List.mem_append_left _ h)))))
theorem tb_6 {w : Cond} (h : w ∈ tables_1_6) : w ∈ lw_tbl := tb_0 (List.mem_append_right _ (List.mem_append_right _ (List.mem_append_right _ (List.mem_append_right _ (List.mem_append_right _ (h))))))
abbrev mX4_init : jv_M := (yX4_init, cX4_init, 2, none)
theorem okX4_init : jv_ok mX4_init 0 := ⟨lw_tg_in (tb_1 (List.mem_of_getElem? (i := 17) rfl)) rfl, lw_tg_in (tb_1 (List.mem_of_getElem? (i := 1) rfl)) rfl, ⟨by decide +kernel, by decide +kernel, by decide +kernel⟩, by decide +kernel, by decide⟩
theorem inX4_init : Cond.instanceMethod yX4_init ∈ lw_tg := lw_tg_in (tb_1 (List.mem_of_getElem? (i := 16) rfl)) rfl
abbrev mX3_init : jv_M := (yX3_init, cX3_init, 1, none)
theorem okX3_init : jv_ok mX3_init 0 := ⟨lw_tg_in (tb_1 (List.mem_of_getElem? (i := 25) rfl)) rfl, lw_tg_in (tb_1 (List.mem_of_getElem? (i := 2) rfl)) rfl, ⟨by decide +kernel, by decide +kernel, by decide +kernel⟩, by decide +kernel, by decide⟩
theorem inX3_init : Cond.instanceMethod yX3_init ∈ lw_tg := lw_tg_in (tb_1 (List.mem_of_getElem? (i := 24) rfl)) rfl
abbrev mX0_init : jv_M := (yX0_init, cX0_init, 2, none)
theorem okX0_init : jv_ok mX0_init 1 := ⟨lw_tg_in (tb_1 (List.mem_of_getElem? (i := 104) rfl)) rfl, lw_tg_in (tb_1 (List.mem_of_getElem? (i := 3) rfl)) rfl, ⟨by decide +kernel, by decide +kernel, by decide +kernel⟩, by decide +kernel, by decide⟩
theorem inX0_init : Cond.instanceMethod yX0_init ∈ lw_tg := lw_tg_in (tb_1 (List.mem_of_getElem? (i := 103) rfl)) rfl
abbrev mX2_init : jv_M := (yX2_init, cX2_init, 1, none)
theorem okX2_init : jv_ok mX2_init 0 := ⟨lw_tg_in (tb_1 (List.mem_of_getElem? (i := 130) rfl)) rfl, lw_tg_in (tb_1 (List.mem_of_getElem? (i := 4) rfl)) rfl, ⟨by decide +kernel, by decide +kernel, by decide +kernel⟩, by decide +kernel, by decide⟩
theorem inX2_init : Cond.instanceMethod yX2_init ∈ lw_tg := lw_tg_in (tb_1 (List.mem_of_getElem? (i := 129) rfl)) rfl
abbrev mX1_init : jv_M := (yX1_init, cX1_init, 1, none)
theorem okX1_init : jv_ok mX1_init 0 := ⟨lw_tg_in (tb_1 (List.mem_of_getElem? (i := 154) rfl)) rfl, lw_tg_in (tb_1 (List.mem_of_getElem? (i := 5) rfl)) rfl, ⟨by decide +kernel, by decide +kernel, by decide +kernel⟩, by decide +kernel, by decide⟩
theorem inX1_init : Cond.instanceMethod yX1_init ∈ lw_tg := lw_tg_in (tb_1 (List.mem_of_getElem? (i := 153) rfl)) rfl
abbrev mX4_row : jv_M := (yX4_row, cX4_row, 4, some .int)
theorem okX4_row : jv_ok mX4_row 3 := ⟨lw_tg_in (tb_1 (List.mem_of_getElem? (i := 198) rfl)) rfl, lw_tg_in (tb_1 (List.mem_of_getElem? (i := 1) rfl)) rfl, ⟨by decide +kernel, by decide +kernel, by decide +kernel⟩, by decide +kernel, by decide⟩
theorem inX4_row : Cond.instanceMethod yX4_row ∈ lw_tg := lw_tg_in (tb_1 (List.mem_of_getElem? (i := 196) rfl)) rfl
theorem seX4_row : Cond.selects RX4 yX4_row yX4_row ∈ lw_tg := lw_tg_in (tb_1 (List.mem_of_getElem? (i := 197) rfl)) rfl
abbrev mX4_isShelf : jv_M := (yX4_isShelf, cX4_isShelf, 1, some .boolean)
theorem okX4_isShelf : jv_ok mX4_isShelf 1 := ⟨lw_tg_in (tb_1 (List.mem_of_getElem? (i := 201) rfl)) rfl, lw_tg_in (tb_1 (List.mem_of_getElem? (i := 1) rfl)) rfl, ⟨by decide +kernel, by decide +kernel, by decide +kernel⟩, by decide +kernel, by decide⟩
theorem stX4_isShelf : Cond.static yX4_isShelf ∈ lw_tg := lw_tg_in (tb_1 (List.mem_of_getElem? (i := 200) rfl)) rfl
abbrev mX4_within : jv_M := (yX4_within, cX4_within, 3, some .boolean)
theorem okX4_within : jv_ok mX4_within 3 := ⟨lw_tg_in (tb_1 (List.mem_of_getElem? (i := 204) rfl)) rfl, lw_tg_in (tb_1 (List.mem_of_getElem? (i := 1) rfl)) rfl, ⟨by decide +kernel, by decide +kernel, by decide +kernel⟩, by decide +kernel, by decide⟩
theorem stX4_within : Cond.static yX4_within ∈ lw_tg := lw_tg_in (tb_1 (List.mem_of_getElem? (i := 203) rfl)) rfl
abbrev mX4_refuse : jv_M := (yX4_refuse, cX4_refuse, 3, some .int)
theorem okX4_refuse : jv_ok mX4_refuse 1 := ⟨lw_tg_in (tb_1 (List.mem_of_getElem? (i := 208) rfl)) rfl, lw_tg_in (tb_1 (List.mem_of_getElem? (i := 1) rfl)) rfl, ⟨by decide +kernel, by decide +kernel, by decide +kernel⟩, by decide +kernel, by decide⟩
theorem inX4_refuse : Cond.instanceMethod yX4_refuse ∈ lw_tg := lw_tg_in (tb_1 (List.mem_of_getElem? (i := 207) rfl)) rfl
theorem seX4_refuse : Cond.selects RX4 yX4_refuse yX4_refuse ∈ lw_tg := lw_tg_in (List.mem_of_getElem? (i := 0) (by decide +kernel)) rfl
abbrev mX1_takeRow : jv_M := (yX1_takeRow, cX1_takeRow, 4, none)
theorem okX1_takeRow : jv_ok mX1_takeRow 2 := ⟨lw_tg_in (tb_1 (List.mem_of_getElem? (i := 212) rfl)) rfl, lw_tg_in (tb_1 (List.mem_of_getElem? (i := 5) rfl)) rfl, ⟨by decide +kernel, by decide +kernel, by decide +kernel⟩, by decide +kernel, by decide⟩
theorem inX1_takeRow : Cond.instanceMethod yX1_takeRow ∈ lw_tg := lw_tg_in (tb_1 (List.mem_of_getElem? (i := 210) rfl)) rfl
theorem seX1_takeRow : Cond.selects RX1 yX1_takeRow yX1_takeRow ∈ lw_tg := lw_tg_in (tb_1 (List.mem_of_getElem? (i := 211) rfl)) rfl
abbrev mX4_set : jv_M := (yX4_set, cX4_set, 6, some .int)
theorem okX4_set : jv_ok mX4_set 3 := ⟨lw_tg_in (tb_1 (List.mem_of_getElem? (i := 216) rfl)) rfl, lw_tg_in (tb_1 (List.mem_of_getElem? (i := 1) rfl)) rfl, ⟨by decide +kernel, by decide +kernel, by decide +kernel⟩, by decide +kernel, by decide⟩
theorem inX4_set : Cond.instanceMethod yX4_set ∈ lw_tg := lw_tg_in (tb_1 (List.mem_of_getElem? (i := 214) rfl)) rfl
theorem seX4_set : Cond.selects RX4 yX4_set yX4_set ∈ lw_tg := lw_tg_in (tb_1 (List.mem_of_getElem? (i := 215) rfl)) rfl
abbrev mX4_rowTrouble : jv_M := (yX4_rowTrouble, cX4_rowTrouble, 2, some .int)
theorem okX4_rowTrouble : jv_ok mX4_rowTrouble 1 := ⟨lw_tg_in (tb_1 (List.mem_of_getElem? (i := 220) rfl)) rfl, lw_tg_in (tb_1 (List.mem_of_getElem? (i := 1) rfl)) rfl, ⟨by decide +kernel, by decide +kernel, by decide +kernel⟩, by decide +kernel, by decide⟩
theorem inX4_rowTrouble : Cond.instanceMethod yX4_rowTrouble ∈ lw_tg := lw_tg_in (tb_1 (List.mem_of_getElem? (i := 219) rfl)) rfl
theorem seX4_rowTrouble : Cond.selects RX4 yX4_rowTrouble yX4_rowTrouble ∈ lw_tg := lw_tg_in (List.mem_of_getElem? (i := 1) (by decide +kernel)) rfl
abbrev mX1_isCount : jv_M := (yX1_isCount, cX1_isCount, 1, some .boolean)
theorem okX1_isCount : jv_ok mX1_isCount 0 := ⟨lw_tg_in (tb_1 (List.mem_of_getElem? (i := 224) rfl)) rfl, lw_tg_in (tb_1 (List.mem_of_getElem? (i := 5) rfl)) rfl, ⟨by decide +kernel, by decide +kernel, by decide +kernel⟩, by decide +kernel, by decide⟩
theorem inX1_isCount : Cond.instanceMethod yX1_isCount ∈ lw_tg := lw_tg_in (tb_1 (List.mem_of_getElem? (i := 222) rfl)) rfl
theorem seX1_isCount : Cond.selects RX1 yX1_isCount yX1_isCount ∈ lw_tg := lw_tg_in (tb_1 (List.mem_of_getElem? (i := 223) rfl)) rfl
abbrev mX1_isRow : jv_M := (yX1_isRow, cX1_isRow, 1, some .boolean)
theorem okX1_isRow : jv_ok mX1_isRow 0 := ⟨lw_tg_in (tb_1 (List.mem_of_getElem? (i := 228) rfl)) rfl, lw_tg_in (tb_1 (List.mem_of_getElem? (i := 5) rfl)) rfl, ⟨by decide +kernel, by decide +kernel, by decide +kernel⟩, by decide +kernel, by decide⟩
theorem inX1_isRow : Cond.instanceMethod yX1_isRow ∈ lw_tg := lw_tg_in (tb_1 (List.mem_of_getElem? (i := 226) rfl)) rfl
theorem seX1_isRow : Cond.selects RX1 yX1_isRow yX1_isRow ∈ lw_tg := lw_tg_in (tb_1 (List.mem_of_getElem? (i := 227) rfl)) rfl
abbrev mX1_hasElement : jv_M := (yX1_hasElement, cX1_hasElement, 2, some .boolean)
theorem okX1_hasElement : jv_ok mX1_hasElement 1 := ⟨lw_tg_in (tb_1 (List.mem_of_getElem? (i := 233) rfl)) rfl, lw_tg_in (tb_1 (List.mem_of_getElem? (i := 5) rfl)) rfl, ⟨by decide +kernel, by decide +kernel, by decide +kernel⟩, by decide +kernel, by decide⟩
theorem inX1_hasElement : Cond.instanceMethod yX1_hasElement ∈ lw_tg := lw_tg_in (tb_1 (List.mem_of_getElem? (i := 231) rfl)) rfl
theorem seX1_hasElement : Cond.selects RX1 yX1_hasElement yX1_hasElement ∈ lw_tg := lw_tg_in (tb_1 (List.mem_of_getElem? (i := 232) rfl)) rfl
abbrev mX1_put : jv_M := (yX1_put, cX1_put, 4, none)
theorem okX1_put : jv_ok mX1_put 2 := ⟨lw_tg_in (tb_1 (List.mem_of_getElem? (i := 237) rfl)) rfl, lw_tg_in (tb_1 (List.mem_of_getElem? (i := 5) rfl)) rfl, ⟨by decide +kernel, by decide +kernel, by decide +kernel⟩, by decide +kernel, by decide⟩
theorem inX1_put : Cond.instanceMethod yX1_put ∈ lw_tg := lw_tg_in (tb_1 (List.mem_of_getElem? (i := 235) rfl)) rfl
theorem seX1_put : Cond.selects RX1 yX1_put yX1_put ∈ lw_tg := lw_tg_in (tb_1 (List.mem_of_getElem? (i := 236) rfl)) rfl
abbrev mX4_copy : jv_M := (yX4_copy, cX4_copy, 7, some .int)
theorem okX4_copy : jv_ok mX4_copy 5 := ⟨lw_tg_in (tb_2 (List.mem_of_getElem? (i := 1) rfl)) rfl, lw_tg_in (tb_1 (List.mem_of_getElem? (i := 1) rfl)) rfl, ⟨by decide +kernel, by decide +kernel, by decide +kernel⟩, by decide +kernel, by decide⟩
theorem inX4_copy : Cond.instanceMethod yX4_copy ∈ lw_tg := lw_tg_in (tb_1 (List.mem_of_getElem? (i := 239) rfl)) rfl
theorem seX4_copy : Cond.selects RX4 yX4_copy yX4_copy ∈ lw_tg := lw_tg_in (tb_2 (List.mem_of_getElem? (i := 0) rfl)) rfl
abbrev mX4_copyTrouble : jv_M := (yX4_copyTrouble, cX4_copyTrouble, 3, some .int)
theorem okX4_copyTrouble : jv_ok mX4_copyTrouble 2 := ⟨lw_tg_in (tb_2 (List.mem_of_getElem? (i := 5) rfl)) rfl, lw_tg_in (tb_1 (List.mem_of_getElem? (i := 1) rfl)) rfl, ⟨by decide +kernel, by decide +kernel, by decide +kernel⟩, by decide +kernel, by decide⟩
theorem inX4_copyTrouble : Cond.instanceMethod yX4_copyTrouble ∈ lw_tg := lw_tg_in (tb_2 (List.mem_of_getElem? (i := 4) rfl)) rfl
theorem seX4_copyTrouble : Cond.selects RX4 yX4_copyTrouble yX4_copyTrouble ∈ lw_tg := lw_tg_in (List.mem_of_getElem? (i := 2) (by decide +kernel)) rfl
abbrev mX1_hasStretch : jv_M := (yX1_hasStretch, cX1_hasStretch, 3, some .boolean)
theorem okX1_hasStretch : jv_ok mX1_hasStretch 2 := ⟨lw_tg_in (tb_2 (List.mem_of_getElem? (i := 9) rfl)) rfl, lw_tg_in (tb_1 (List.mem_of_getElem? (i := 5) rfl)) rfl, ⟨by decide +kernel, by decide +kernel, by decide +kernel⟩, by decide +kernel, by decide⟩
theorem inX1_hasStretch : Cond.instanceMethod yX1_hasStretch ∈ lw_tg := lw_tg_in (tb_2 (List.mem_of_getElem? (i := 7) rfl)) rfl
theorem seX1_hasStretch : Cond.selects RX1 yX1_hasStretch yX1_hasStretch ∈ lw_tg := lw_tg_in (tb_2 (List.mem_of_getElem? (i := 8) rfl)) rfl
abbrev mX4_element : jv_M := (yX4_element, cX4_element, 3, some .long)
theorem okX4_element : jv_ok mX4_element 2 := ⟨lw_tg_in (tb_2 (List.mem_of_getElem? (i := 16) rfl)) rfl, lw_tg_in (tb_1 (List.mem_of_getElem? (i := 1) rfl)) rfl, ⟨by decide +kernel, by decide +kernel, by decide +kernel⟩, by decide +kernel, by decide⟩
theorem inX4_element : Cond.instanceMethod yX4_element ∈ lw_tg := lw_tg_in (tb_2 (List.mem_of_getElem? (i := 14) rfl)) rfl
theorem seX4_element : Cond.selects RX4 yX4_element yX4_element ∈ lw_tg := lw_tg_in (tb_2 (List.mem_of_getElem? (i := 15) rfl)) rfl
abbrev mX4_holds : jv_M := (yX4_holds, cX4_holds, 2, some .int)
theorem okX4_holds : jv_ok mX4_holds 1 := ⟨lw_tg_in (tb_2 (List.mem_of_getElem? (i := 20) rfl)) rfl, lw_tg_in (tb_1 (List.mem_of_getElem? (i := 1) rfl)) rfl, ⟨by decide +kernel, by decide +kernel, by decide +kernel⟩, by decide +kernel, by decide⟩
theorem inX4_holds : Cond.instanceMethod yX4_holds ∈ lw_tg := lw_tg_in (tb_2 (List.mem_of_getElem? (i := 18) rfl)) rfl
theorem seX4_holds : Cond.selects RX4 yX4_holds yX4_holds ∈ lw_tg := lw_tg_in (tb_2 (List.mem_of_getElem? (i := 19) rfl)) rfl
abbrev mX4_show : jv_M := (yX4_show, cX4_show, 3, some .int)
theorem okX4_show : jv_ok mX4_show 2 := ⟨lw_tg_in (tb_2 (List.mem_of_getElem? (i := 24) rfl)) rfl, lw_tg_in (tb_1 (List.mem_of_getElem? (i := 1) rfl)) rfl, ⟨by decide +kernel, by decide +kernel, by decide +kernel⟩, by decide +kernel, by decide⟩
theorem inX4_show : Cond.instanceMethod yX4_show ∈ lw_tg := lw_tg_in (tb_2 (List.mem_of_getElem? (i := 22) rfl)) rfl
theorem seX4_show : Cond.selects RX4 yX4_show yX4_show ∈ lw_tg := lw_tg_in (tb_2 (List.mem_of_getElem? (i := 23) rfl)) rfl
abbrev mX3_hasCount : jv_M := (yX3_hasCount, cX3_hasCount, 2, some .boolean)
theorem okX3_hasCount : jv_ok mX3_hasCount 1 := ⟨lw_tg_in (tb_2 (List.mem_of_getElem? (i := 28) rfl)) rfl, lw_tg_in (tb_1 (List.mem_of_getElem? (i := 2) rfl)) rfl, ⟨by decide +kernel, by decide +kernel, by decide +kernel⟩, by decide +kernel, by decide⟩
theorem inX3_hasCount : Cond.instanceMethod yX3_hasCount ∈ lw_tg := lw_tg_in (tb_2 (List.mem_of_getElem? (i := 26) rfl)) rfl
theorem seX3_hasCount : Cond.selects RX3 yX3_hasCount yX3_hasCount ∈ lw_tg := lw_tg_in (tb_2 (List.mem_of_getElem? (i := 27) rfl)) rfl
abbrev mX1_takeNothing : jv_M := (yX1_takeNothing, cX1_takeNothing, 1, none)
theorem okX1_takeNothing : jv_ok mX1_takeNothing 0 := ⟨lw_tg_in (tb_2 (List.mem_of_getElem? (i := 33) rfl)) rfl, lw_tg_in (tb_1 (List.mem_of_getElem? (i := 5) rfl)) rfl, ⟨by decide +kernel, by decide +kernel, by decide +kernel⟩, by decide +kernel, by decide⟩
theorem inX1_takeNothing : Cond.instanceMethod yX1_takeNothing ∈ lw_tg := lw_tg_in (tb_2 (List.mem_of_getElem? (i := 31) rfl)) rfl
theorem seX1_takeNothing : Cond.selects RX1 yX1_takeNothing yX1_takeNothing ∈ lw_tg := lw_tg_in (tb_2 (List.mem_of_getElem? (i := 32) rfl)) rfl
abbrev mX1_takeCount : jv_M := (yX1_takeCount, cX1_takeCount, 2, none)
theorem okX1_takeCount : jv_ok mX1_takeCount 1 := ⟨lw_tg_in (tb_2 (List.mem_of_getElem? (i := 37) rfl)) rfl, lw_tg_in (tb_1 (List.mem_of_getElem? (i := 5) rfl)) rfl, ⟨by decide +kernel, by decide +kernel, by decide +kernel⟩, by decide +kernel, by decide⟩
theorem inX1_takeCount : Cond.instanceMethod yX1_takeCount ∈ lw_tg := lw_tg_in (tb_2 (List.mem_of_getElem? (i := 35) rfl)) rfl
theorem seX1_takeCount : Cond.selects RX1 yX1_takeCount yX1_takeCount ∈ lw_tg := lw_tg_in (tb_2 (List.mem_of_getElem? (i := 36) rfl)) rfl
abbrev mX4_says : jv_M := (yX4_says, cX4_says, 4, some .int)
theorem okX4_says : jv_ok mX4_says 2 := ⟨lw_tg_in (tb_2 (List.mem_of_getElem? (i := 41) rfl)) rfl, lw_tg_in (tb_1 (List.mem_of_getElem? (i := 1) rfl)) rfl, ⟨by decide +kernel, by decide +kernel, by decide +kernel⟩, by decide +kernel, by decide⟩
theorem inX4_says : Cond.instanceMethod yX4_says ∈ lw_tg := lw_tg_in (tb_2 (List.mem_of_getElem? (i := 39) rfl)) rfl
theorem seX4_says : Cond.selects RX4 yX4_says yX4_says ∈ lw_tg := lw_tg_in (tb_2 (List.mem_of_getElem? (i := 40) rfl)) rfl
abbrev mX1_countNumber : jv_M := (yX1_countNumber, cX1_countNumber, 1, some .int)
theorem okX1_countNumber : jv_ok mX1_countNumber 0 := ⟨lw_tg_in (tb_2 (List.mem_of_getElem? (i := 45) rfl)) rfl, lw_tg_in (tb_1 (List.mem_of_getElem? (i := 5) rfl)) rfl, ⟨by decide +kernel, by decide +kernel, by decide +kernel⟩, by decide +kernel, by decide⟩
theorem inX1_countNumber : Cond.instanceMethod yX1_countNumber ∈ lw_tg := lw_tg_in (tb_2 (List.mem_of_getElem? (i := 43) rfl)) rfl
theorem seX1_countNumber : Cond.selects RX1 yX1_countNumber yX1_countNumber ∈ lw_tg := lw_tg_in (tb_2 (List.mem_of_getElem? (i := 44) rfl)) rfl
abbrev mX4_isOfKind : jv_M := (yX4_isOfKind, cX4_isOfKind, 2, some .boolean)
theorem okX4_isOfKind : jv_ok mX4_isOfKind 2 := ⟨lw_tg_in (tb_2 (List.mem_of_getElem? (i := 49) rfl)) rfl, lw_tg_in (tb_1 (List.mem_of_getElem? (i := 1) rfl)) rfl, ⟨by decide +kernel, by decide +kernel, by decide +kernel⟩, by decide +kernel, by decide⟩
theorem stX4_isOfKind : Cond.static yX4_isOfKind ∈ lw_tg := lw_tg_in (tb_2 (List.mem_of_getElem? (i := 48) rfl)) rfl
abbrev mX4_saying : jv_M := (yX4_saying, cX4_saying, 4, some .int)
theorem okX4_saying : jv_ok mX4_saying 2 := ⟨lw_tg_in (tb_2 (List.mem_of_getElem? (i := 55) rfl)) rfl, lw_tg_in (tb_1 (List.mem_of_getElem? (i := 1) rfl)) rfl, ⟨by decide +kernel, by decide +kernel, by decide +kernel⟩, by decide +kernel, by decide⟩
theorem inX4_saying : Cond.instanceMethod yX4_saying ∈ lw_tg := lw_tg_in (tb_2 (List.mem_of_getElem? (i := 54) rfl)) rfl
theorem seX4_saying : Cond.selects RX4 yX4_saying yX4_saying ∈ lw_tg := lw_tg_in (List.mem_of_getElem? (i := 3) (by decide +kernel)) rfl
abbrev mX3_sideAt : jv_M := (yX3_sideAt, cX3_sideAt, 5, some .int)
theorem okX3_sideAt : jv_ok mX3_sideAt 2 := ⟨lw_tg_in (tb_2 (List.mem_of_getElem? (i := 59) rfl)) rfl, lw_tg_in (tb_1 (List.mem_of_getElem? (i := 2) rfl)) rfl, ⟨by decide +kernel, by decide +kernel, by decide +kernel⟩, by decide +kernel, by decide⟩
theorem inX3_sideAt : Cond.instanceMethod yX3_sideAt ∈ lw_tg := lw_tg_in (tb_2 (List.mem_of_getElem? (i := 57) rfl)) rfl
theorem seX3_sideAt : Cond.selects RX3 yX3_sideAt yX3_sideAt ∈ lw_tg := lw_tg_in (tb_2 (List.mem_of_getElem? (i := 58) rfl)) rfl
abbrev mX3_evenPlaces : jv_M := (yX3_evenPlaces, cX3_evenPlaces, 1, some .int)
theorem okX3_evenPlaces : jv_ok mX3_evenPlaces 0 := ⟨lw_tg_in (tb_2 (List.mem_of_getElem? (i := 63) rfl)) rfl, lw_tg_in (tb_1 (List.mem_of_getElem? (i := 2) rfl)) rfl, ⟨by decide +kernel, by decide +kernel, by decide +kernel⟩, by decide +kernel, by decide⟩
theorem inX3_evenPlaces : Cond.instanceMethod yX3_evenPlaces ∈ lw_tg := lw_tg_in (tb_2 (List.mem_of_getElem? (i := 61) rfl)) rfl
theorem seX3_evenPlaces : Cond.selects RX3 yX3_evenPlaces yX3_evenPlaces ∈ lw_tg := lw_tg_in (tb_2 (List.mem_of_getElem? (i := 62) rfl)) rfl
abbrev mX4_child : jv_M := (yX4_child, cX4_child, 3, some .int)
theorem okX4_child : jv_ok mX4_child 2 := ⟨lw_tg_in (tb_2 (List.mem_of_getElem? (i := 68) rfl)) rfl, lw_tg_in (tb_1 (List.mem_of_getElem? (i := 1) rfl)) rfl, ⟨by decide +kernel, by decide +kernel, by decide +kernel⟩, by decide +kernel, by decide⟩
theorem inX4_child : Cond.instanceMethod yX4_child ∈ lw_tg := lw_tg_in (tb_2 (List.mem_of_getElem? (i := 66) rfl)) rfl
theorem seX4_child : Cond.selects RX4 yX4_child yX4_child ∈ lw_tg := lw_tg_in (tb_2 (List.mem_of_getElem? (i := 67) rfl)) rfl
abbrev mX3_addChild : jv_M := (yX3_addChild, cX3_addChild, 4, some .int)
theorem okX3_addChild : jv_ok mX3_addChild 2 := ⟨lw_tg_in (tb_2 (List.mem_of_getElem? (i := 72) rfl)) rfl, lw_tg_in (tb_1 (List.mem_of_getElem? (i := 2) rfl)) rfl, ⟨by decide +kernel, by decide +kernel, by decide +kernel⟩, by decide +kernel, by decide⟩
theorem inX3_addChild : Cond.instanceMethod yX3_addChild ∈ lw_tg := lw_tg_in (tb_2 (List.mem_of_getElem? (i := 70) rfl)) rfl
theorem seX3_addChild : Cond.selects RX3 yX3_addChild yX3_addChild ∈ lw_tg := lw_tg_in (tb_2 (List.mem_of_getElem? (i := 71) rfl)) rfl
abbrev mX4_count : jv_M := (yX4_count, cX4_count, 4, some .int)
theorem okX4_count : jv_ok mX4_count 3 := ⟨lw_tg_in (tb_2 (List.mem_of_getElem? (i := 76) rfl)) rfl, lw_tg_in (tb_1 (List.mem_of_getElem? (i := 1) rfl)) rfl, ⟨by decide +kernel, by decide +kernel, by decide +kernel⟩, by decide +kernel, by decide⟩
theorem inX4_count : Cond.instanceMethod yX4_count ∈ lw_tg := lw_tg_in (tb_2 (List.mem_of_getElem? (i := 74) rfl)) rfl
theorem seX4_count : Cond.selects RX4 yX4_count yX4_count ∈ lw_tg := lw_tg_in (tb_2 (List.mem_of_getElem? (i := 75) rfl)) rfl
abbrev mX3_addCount : jv_M := (yX3_addCount, cX3_addCount, 5, some .int)
theorem okX3_addCount : jv_ok mX3_addCount 3 := ⟨lw_tg_in (tb_2 (List.mem_of_getElem? (i := 80) rfl)) rfl, lw_tg_in (tb_1 (List.mem_of_getElem? (i := 2) rfl)) rfl, ⟨by decide +kernel, by decide +kernel, by decide +kernel⟩, by decide +kernel, by decide⟩
theorem inX3_addCount : Cond.instanceMethod yX3_addCount ∈ lw_tg := lw_tg_in (tb_2 (List.mem_of_getElem? (i := 78) rfl)) rfl
theorem seX3_addCount : Cond.selects RX3 yX3_addCount yX3_addCount ∈ lw_tg := lw_tg_in (tb_2 (List.mem_of_getElem? (i := 79) rfl)) rfl
abbrev mX4_wish : jv_M := (yX4_wish, cX4_wish, 5, some .int)
theorem okX4_wish : jv_ok mX4_wish 4 := ⟨lw_tg_in (tb_2 (List.mem_of_getElem? (i := 84) rfl)) rfl, lw_tg_in (tb_1 (List.mem_of_getElem? (i := 1) rfl)) rfl, ⟨by decide +kernel, by decide +kernel, by decide +kernel⟩, by decide +kernel, by decide⟩
theorem inX4_wish : Cond.instanceMethod yX4_wish ∈ lw_tg := lw_tg_in (tb_2 (List.mem_of_getElem? (i := 82) rfl)) rfl
theorem seX4_wish : Cond.selects RX4 yX4_wish yX4_wish ∈ lw_tg := lw_tg_in (tb_2 (List.mem_of_getElem? (i := 83) rfl)) rfl
abbrev mX4_areTwo : jv_M := (yX4_areTwo, cX4_areTwo, 3, some .boolean)
theorem okX4_areTwo : jv_ok mX4_areTwo 2 := ⟨lw_tg_in (tb_2 (List.mem_of_getElem? (i := 88) rfl)) rfl, lw_tg_in (tb_1 (List.mem_of_getElem? (i := 1) rfl)) rfl, ⟨by decide +kernel, by decide +kernel, by decide +kernel⟩, by decide +kernel, by decide⟩
theorem inX4_areTwo : Cond.instanceMethod yX4_areTwo ∈ lw_tg := lw_tg_in (tb_2 (List.mem_of_getElem? (i := 87) rfl)) rfl
theorem seX4_areTwo : Cond.selects RX4 yX4_areTwo yX4_areTwo ∈ lw_tg := lw_tg_in (List.mem_of_getElem? (i := 4) (by decide +kernel)) rfl
abbrev mX3_hasChild : jv_M := (yX3_hasChild, cX3_hasChild, 2, some .boolean)
theorem okX3_hasChild : jv_ok mX3_hasChild 1 := ⟨lw_tg_in (tb_2 (List.mem_of_getElem? (i := 92) rfl)) rfl, lw_tg_in (tb_1 (List.mem_of_getElem? (i := 2) rfl)) rfl, ⟨by decide +kernel, by decide +kernel, by decide +kernel⟩, by decide +kernel, by decide⟩
theorem inX3_hasChild : Cond.instanceMethod yX3_hasChild ∈ lw_tg := lw_tg_in (tb_2 (List.mem_of_getElem? (i := 90) rfl)) rfl
theorem seX3_hasChild : Cond.selects RX3 yX3_hasChild yX3_hasChild ∈ lw_tg := lw_tg_in (tb_2 (List.mem_of_getElem? (i := 91) rfl)) rfl
abbrev mX3_addWish : jv_M := (yX3_addWish, cX3_addWish, 5, some .int)
theorem okX3_addWish : jv_ok mX3_addWish 4 := ⟨lw_tg_in (tb_2 (List.mem_of_getElem? (i := 96) rfl)) rfl, lw_tg_in (tb_1 (List.mem_of_getElem? (i := 2) rfl)) rfl, ⟨by decide +kernel, by decide +kernel, by decide +kernel⟩, by decide +kernel, by decide⟩
theorem inX3_addWish : Cond.instanceMethod yX3_addWish ∈ lw_tg := lw_tg_in (tb_2 (List.mem_of_getElem? (i := 94) rfl)) rfl
theorem seX3_addWish : Cond.selects RX3 yX3_addWish yX3_addWish ∈ lw_tg := lw_tg_in (tb_2 (List.mem_of_getElem? (i := 95) rfl)) rfl
abbrev mX4_content : jv_M := (yX4_content, cX4_content, 2, some .int)
theorem okX4_content : jv_ok mX4_content 0 := ⟨lw_tg_in (tb_2 (List.mem_of_getElem? (i := 100) rfl)) rfl, lw_tg_in (tb_1 (List.mem_of_getElem? (i := 1) rfl)) rfl, ⟨by decide +kernel, by decide +kernel, by decide +kernel⟩, by decide +kernel, by decide⟩
theorem inX4_content : Cond.instanceMethod yX4_content ∈ lw_tg := lw_tg_in (tb_2 (List.mem_of_getElem? (i := 98) rfl)) rfl
theorem seX4_content : Cond.selects RX4 yX4_content yX4_content ∈ lw_tg := lw_tg_in (tb_2 (List.mem_of_getElem? (i := 99) rfl)) rfl
abbrev mX4_feed : jv_M := (yX4_feed, cX4_feed, 2, some .int)
theorem okX4_feed : jv_ok mX4_feed 1 := ⟨lw_tg_in (tb_2 (List.mem_of_getElem? (i := 104) rfl)) rfl, lw_tg_in (tb_1 (List.mem_of_getElem? (i := 1) rfl)) rfl, ⟨by decide +kernel, by decide +kernel, by decide +kernel⟩, by decide +kernel, by decide⟩
theorem inX4_feed : Cond.instanceMethod yX4_feed ∈ lw_tg := lw_tg_in (tb_2 (List.mem_of_getElem? (i := 102) rfl)) rfl
theorem seX4_feed : Cond.selects RX4 yX4_feed yX4_feed ∈ lw_tg := lw_tg_in (tb_2 (List.mem_of_getElem? (i := 103) rfl)) rfl
abbrev mX2_put : jv_M := (yX2_put, cX2_put, 2, some .int)
theorem okX2_put : jv_ok mX2_put 1 := ⟨lw_tg_in (tb_2 (List.mem_of_getElem? (i := 108) rfl)) rfl, lw_tg_in (tb_1 (List.mem_of_getElem? (i := 4) rfl)) rfl, ⟨by decide +kernel, by decide +kernel, by decide +kernel⟩, by decide +kernel, by decide⟩
theorem inX2_put : Cond.instanceMethod yX2_put ∈ lw_tg := lw_tg_in (tb_2 (List.mem_of_getElem? (i := 106) rfl)) rfl
theorem seX2_put : Cond.selects RX2 yX2_put yX2_put ∈ lw_tg := lw_tg_in (tb_2 (List.mem_of_getElem? (i := 107) rfl)) rfl
abbrev mX4_wipe : jv_M := (yX4_wipe, cX4_wipe, 1, some .int)
theorem okX4_wipe : jv_ok mX4_wipe 0 := ⟨lw_tg_in (tb_2 (List.mem_of_getElem? (i := 112) rfl)) rfl, lw_tg_in (tb_1 (List.mem_of_getElem? (i := 1) rfl)) rfl, ⟨by decide +kernel, by decide +kernel, by decide +kernel⟩, by decide +kernel, by decide⟩
theorem inX4_wipe : Cond.instanceMethod yX4_wipe ∈ lw_tg := lw_tg_in (tb_2 (List.mem_of_getElem? (i := 110) rfl)) rfl
theorem seX4_wipe : Cond.selects RX4 yX4_wipe yX4_wipe ∈ lw_tg := lw_tg_in (tb_2 (List.mem_of_getElem? (i := 111) rfl)) rfl
abbrev mX2_clear : jv_M := (yX2_clear, cX2_clear, 2, some .int)
theorem okX2_clear : jv_ok mX2_clear 0 := ⟨lw_tg_in (tb_2 (List.mem_of_getElem? (i := 116) rfl)) rfl, lw_tg_in (tb_1 (List.mem_of_getElem? (i := 4) rfl)) rfl, ⟨by decide +kernel, by decide +kernel, by decide +kernel⟩, by decide +kernel, by decide⟩
theorem inX2_clear : Cond.instanceMethod yX2_clear ∈ lw_tg := lw_tg_in (tb_2 (List.mem_of_getElem? (i := 114) rfl)) rfl
theorem seX2_clear : Cond.selects RX2 yX2_clear yX2_clear ∈ lw_tg := lw_tg_in (tb_2 (List.mem_of_getElem? (i := 115) rfl)) rfl
abbrev mX4_yard : jv_M := (yX4_yard, cX4_yard, 2, some .int)
theorem okX4_yard : jv_ok mX4_yard 0 := ⟨lw_tg_in (tb_2 (List.mem_of_getElem? (i := 120) rfl)) rfl, lw_tg_in (tb_1 (List.mem_of_getElem? (i := 1) rfl)) rfl, ⟨by decide +kernel, by decide +kernel, by decide +kernel⟩, by decide +kernel, by decide⟩
theorem inX4_yard : Cond.instanceMethod yX4_yard ∈ lw_tg := lw_tg_in (tb_2 (List.mem_of_getElem? (i := 118) rfl)) rfl
theorem seX4_yard : Cond.selects RX4 yX4_yard yX4_yard ∈ lw_tg := lw_tg_in (tb_2 (List.mem_of_getElem? (i := 119) rfl)) rfl
abbrev mX3_takeOver : jv_M := (yX3_takeOver, cX3_takeOver, 2, none)
theorem okX3_takeOver : jv_ok mX3_takeOver 1 := ⟨lw_tg_in (tb_2 (List.mem_of_getElem? (i := 124) rfl)) rfl, lw_tg_in (tb_1 (List.mem_of_getElem? (i := 2) rfl)) rfl, ⟨by decide +kernel, by decide +kernel, by decide +kernel⟩, by decide +kernel, by decide⟩
theorem inX3_takeOver : Cond.instanceMethod yX3_takeOver ∈ lw_tg := lw_tg_in (tb_2 (List.mem_of_getElem? (i := 122) rfl)) rfl
theorem seX3_takeOver : Cond.selects RX3 yX3_takeOver yX3_takeOver ∈ lw_tg := lw_tg_in (tb_2 (List.mem_of_getElem? (i := 123) rfl)) rfl
abbrev mX2_readOnto : jv_M := (yX2_readOnto, cX2_readOnto, 3, some .int)
theorem okX2_readOnto : jv_ok mX2_readOnto 1 := ⟨lw_tg_in (tb_2 (List.mem_of_getElem? (i := 129) rfl)) rfl, lw_tg_in (tb_1 (List.mem_of_getElem? (i := 4) rfl)) rfl, ⟨by decide +kernel, by decide +kernel, by decide +kernel⟩, by decide +kernel, by decide⟩
theorem inX2_readOnto : Cond.instanceMethod yX2_readOnto ∈ lw_tg := lw_tg_in (tb_2 (List.mem_of_getElem? (i := 127) rfl)) rfl
theorem seX2_readOnto : Cond.selects RX2 yX2_readOnto yX2_readOnto ∈ lw_tg := lw_tg_in (tb_2 (List.mem_of_getElem? (i := 128) rfl)) rfl
abbrev mX2_readStatement : jv_M := (yX2_readStatement, cX2_readStatement, 2, some .boolean)
theorem okX2_readStatement : jv_ok mX2_readStatement 1 := ⟨lw_tg_in (tb_2 (List.mem_of_getElem? (i := 133) rfl)) rfl, lw_tg_in (tb_1 (List.mem_of_getElem? (i := 4) rfl)) rfl, ⟨by decide +kernel, by decide +kernel, by decide +kernel⟩, by decide +kernel, by decide⟩
theorem inX2_readStatement : Cond.instanceMethod yX2_readStatement ∈ lw_tg := lw_tg_in (tb_2 (List.mem_of_getElem? (i := 132) rfl)) rfl
theorem seX2_readStatement : Cond.selects RX2 yX2_readStatement yX2_readStatement ∈ lw_tg := lw_tg_in (List.mem_of_getElem? (i := 5) (by decide +kernel)) rfl
abbrev mX2_nextToken : jv_M := (yX2_nextToken, cX2_nextToken, 1, none)
theorem okX2_nextToken : jv_ok mX2_nextToken 0 := ⟨lw_tg_in (tb_2 (List.mem_of_getElem? (i := 137) rfl)) rfl, lw_tg_in (tb_1 (List.mem_of_getElem? (i := 4) rfl)) rfl, ⟨by decide +kernel, by decide +kernel, by decide +kernel⟩, by decide +kernel, by decide⟩
theorem inX2_nextToken : Cond.instanceMethod yX2_nextToken ∈ lw_tg := lw_tg_in (tb_2 (List.mem_of_getElem? (i := 136) rfl)) rfl
theorem seX2_nextToken : Cond.selects RX2 yX2_nextToken yX2_nextToken ∈ lw_tg := lw_tg_in (List.mem_of_getElem? (i := 6) (by decide +kernel)) rfl
abbrev mX2_tokenOf : jv_M := (yX2_tokenOf, cX2_tokenOf, 1, some .int)
theorem okX2_tokenOf : jv_ok mX2_tokenOf 1 := ⟨lw_tg_in (tb_2 (List.mem_of_getElem? (i := 140) rfl)) rfl, lw_tg_in (tb_1 (List.mem_of_getElem? (i := 4) rfl)) rfl, ⟨by decide +kernel, by decide +kernel, by decide +kernel⟩, by decide +kernel, by decide⟩
theorem stX2_tokenOf : Cond.static yX2_tokenOf ∈ lw_tg := lw_tg_in (tb_2 (List.mem_of_getElem? (i := 139) rfl)) rfl
abbrev mX2_isWord : jv_M := (yX2_isWord, cX2_isWord, 3, some .boolean)
theorem okX2_isWord : jv_ok mX2_isWord 1 := ⟨lw_tg_in (tb_2 (List.mem_of_getElem? (i := 145) rfl)) rfl, lw_tg_in (tb_1 (List.mem_of_getElem? (i := 4) rfl)) rfl, ⟨by decide +kernel, by decide +kernel, by decide +kernel⟩, by decide +kernel, by decide⟩
theorem inX2_isWord : Cond.instanceMethod yX2_isWord ∈ lw_tg := lw_tg_in (tb_2 (List.mem_of_getElem? (i := 144) rfl)) rfl
theorem seX2_isWord : Cond.selects RX2 yX2_isWord yX2_isWord ∈ lw_tg := lw_tg_in (List.mem_of_getElem? (i := 7) (by decide +kernel)) rfl
abbrev mJ0_length_8abf5 : jv_M := (yJ0_length_8abf5, cJ0_length_8abf5, 1, some .int)
theorem okJ0_length_8abf5 : jv_ok mJ0_length_8abf5 0 := ⟨lw_tg_in (tb_2 (List.mem_of_getElem? (i := 149) rfl)) rfl, lw_tg_in (tb_1 (List.mem_of_getElem? (i := 8) rfl)) rfl, ⟨by decide +kernel, by decide +kernel, by decide +kernel⟩, by decide +kernel, by decide⟩
theorem inJ0_length_8abf5 : Cond.instanceMethod yJ0_length_8abf5 ∈ lw_tg := lw_tg_in (tb_2 (List.mem_of_getElem? (i := 147) rfl)) rfl
theorem seJ0_length_8abf5 : Cond.selects RJ0 yJ0_length_8abf5 yJ0_length_8abf5 ∈ lw_tg := lw_tg_in (tb_2 (List.mem_of_getElem? (i := 148) rfl)) rfl
abbrev mJ0_coder_7d493 : jv_M := (yJ0_coder_7d493, cJ0_coder_7d493, 1, some .byte)
theorem okJ0_coder_7d493 : jv_ok mJ0_coder_7d493 0 := ⟨lw_tg_in (tb_2 (List.mem_of_getElem? (i := 153) rfl)) rfl, lw_tg_in (tb_1 (List.mem_of_getElem? (i := 8) rfl)) rfl, ⟨by decide +kernel, by decide +kernel, by decide +kernel⟩, by decide +kernel, by decide⟩
theorem inJ0_coder_7d493 : Cond.instanceMethod yJ0_coder_7d493 ∈ lw_tg := lw_tg_in (tb_2 (List.mem_of_getElem? (i := 151) rfl)) rfl
theorem seJ0_coder_7d493 : Cond.selects RJ0 yJ0_coder_7d493 yJ0_coder_7d493 ∈ lw_tg := lw_tg_in (tb_2 (List.mem_of_getElem? (i := 152) rfl)) rfl
abbrev mJ0_charAt_5068e : jv_M := (yJ0_charAt_5068e, cJ0_charAt_5068e, 2, some .char)
theorem okJ0_charAt_5068e : jv_ok mJ0_charAt_5068e 1 := ⟨lw_tg_in (tb_2 (List.mem_of_getElem? (i := 159) rfl)) rfl, lw_tg_in (tb_1 (List.mem_of_getElem? (i := 8) rfl)) rfl, ⟨by decide +kernel, by decide +kernel, by decide +kernel⟩, by decide +kernel, by decide⟩
theorem inJ0_charAt_5068e : Cond.instanceMethod yJ0_charAt_5068e ∈ lw_tg := lw_tg_in (tb_2 (List.mem_of_getElem? (i := 157) rfl)) rfl
theorem seJ0_charAt_5068e : Cond.selects RJ0 yJ0_charAt_5068e yJ0_charAt_5068e ∈ lw_tg := lw_tg_in (tb_2 (List.mem_of_getElem? (i := 158) rfl)) rfl
abbrev mJ0_isLatin1_aae02 : jv_M := (yJ0_isLatin1_aae02, cJ0_isLatin1_aae02, 1, some .boolean)
theorem okJ0_isLatin1_aae02 : jv_ok mJ0_isLatin1_aae02 0 := ⟨lw_tg_in (tb_2 (List.mem_of_getElem? (i := 163) rfl)) rfl, lw_tg_in (tb_1 (List.mem_of_getElem? (i := 8) rfl)) rfl, ⟨by decide +kernel, by decide +kernel, by decide +kernel⟩, by decide +kernel, by decide⟩
theorem inJ0_isLatin1_aae02 : Cond.instanceMethod yJ0_isLatin1_aae02 ∈ lw_tg := lw_tg_in (tb_2 (List.mem_of_getElem? (i := 161) rfl)) rfl
theorem seJ0_isLatin1_aae02 : Cond.selects RJ0 yJ0_isLatin1_aae02 yJ0_isLatin1_aae02 ∈ lw_tg := lw_tg_in (tb_2 (List.mem_of_getElem? (i := 162) rfl)) rfl
abbrev mJ1_charAt_3b067 : jv_M := (yJ1_charAt_3b067, cJ1_charAt_3b067, 2, some .char)
theorem okJ1_charAt_3b067 : jv_ok mJ1_charAt_3b067 2 := ⟨lw_tg_in (tb_2 (List.mem_of_getElem? (i := 166) rfl)) rfl, lw_tg_in (tb_1 (List.mem_of_getElem? (i := 9) rfl)) rfl, ⟨by decide +kernel, by decide +kernel, by decide +kernel⟩, by decide +kernel, by decide⟩
theorem stJ1_charAt_3b067 : Cond.static yJ1_charAt_3b067 ∈ lw_tg := lw_tg_in (tb_2 (List.mem_of_getElem? (i := 165) rfl)) rfl
abbrev mJ0_checkIndex_df160 : jv_M := (yJ0_checkIndex_df160, cJ0_checkIndex_df160, 2, none)
theorem okJ0_checkIndex_df160 : jv_ok mJ0_checkIndex_df160 2 := ⟨lw_tg_in (tb_2 (List.mem_of_getElem? (i := 169) rfl)) rfl, lw_tg_in (tb_1 (List.mem_of_getElem? (i := 8) rfl)) rfl, ⟨by decide +kernel, by decide +kernel, by decide +kernel⟩, by decide +kernel, by decide⟩
theorem stJ0_checkIndex_df160 : Cond.static yJ0_checkIndex_df160 ∈ lw_tg := lw_tg_in (tb_2 (List.mem_of_getElem? (i := 168) rfl)) rfl
abbrev mJ3_checkIndex_8e157 : jv_M := (yJ3_checkIndex_8e157, cJ3_checkIndex_8e157, 3, some .int)
theorem okJ3_checkIndex_8e157 : jv_ok mJ3_checkIndex_8e157 3 := ⟨lw_tg_in (tb_2 (List.mem_of_getElem? (i := 174) rfl)) rfl, lw_tg_in (tb_1 (List.mem_of_getElem? (i := 10) rfl)) rfl, ⟨by decide +kernel, by decide +kernel, by decide +kernel⟩, by decide +kernel, by decide⟩
theorem stJ3_checkIndex_8e157 : Cond.static yJ3_checkIndex_8e157 ∈ lw_tg := lw_tg_in (tb_2 (List.mem_of_getElem? (i := 173) rfl)) rfl
abbrev mJ2_charAt_3b067 : jv_M := (yJ2_charAt_3b067, cJ2_charAt_3b067, 2, some .char)
theorem okJ2_charAt_3b067 : jv_ok mJ2_charAt_3b067 2 := ⟨lw_tg_in (tb_2 (List.mem_of_getElem? (i := 177) rfl)) rfl, lw_tg_in (tb_1 (List.mem_of_getElem? (i := 11) rfl)) rfl, ⟨by decide +kernel, by decide +kernel, by decide +kernel⟩, by decide +kernel, by decide⟩
theorem stJ2_charAt_3b067 : Cond.static yJ2_charAt_3b067 ∈ lw_tg := lw_tg_in (tb_2 (List.mem_of_getElem? (i := 176) rfl)) rfl
abbrev mJ2_checkIndex_2214a : jv_M := (yJ2_checkIndex_2214a, cJ2_checkIndex_2214a, 2, none)
theorem okJ2_checkIndex_2214a : jv_ok mJ2_checkIndex_2214a 2 := ⟨lw_tg_in (tb_2 (List.mem_of_getElem? (i := 180) rfl)) rfl, lw_tg_in (tb_1 (List.mem_of_getElem? (i := 11) rfl)) rfl, ⟨by decide +kernel, by decide +kernel, by decide +kernel⟩, by decide +kernel, by decide⟩
theorem stJ2_checkIndex_2214a : Cond.static yJ2_checkIndex_2214a ∈ lw_tg := lw_tg_in (tb_2 (List.mem_of_getElem? (i := 179) rfl)) rfl
abbrev mJ2_length_9d52b : jv_M := (yJ2_length_9d52b, cJ2_length_9d52b, 1, some .int)
theorem okJ2_length_9d52b : jv_ok mJ2_length_9d52b 1 := ⟨lw_tg_in (tb_2 (List.mem_of_getElem? (i := 183) rfl)) rfl, lw_tg_in (tb_1 (List.mem_of_getElem? (i := 11) rfl)) rfl, ⟨by decide +kernel, by decide +kernel, by decide +kernel⟩, by decide +kernel, by decide⟩
theorem stJ2_length_9d52b : Cond.static yJ2_length_9d52b ∈ lw_tg := lw_tg_in (tb_2 (List.mem_of_getElem? (i := 182) rfl)) rfl
abbrev mJ2_getChar_3b067 : jv_M := (yJ2_getChar_3b067, cJ2_getChar_3b067, 2, some .char)
theorem okJ2_getChar_3b067 : jv_ok mJ2_getChar_3b067 2 := ⟨lw_tg_in (tb_2 (List.mem_of_getElem? (i := 187) rfl)) rfl, lw_tg_in (tb_1 (List.mem_of_getElem? (i := 11) rfl)) rfl, ⟨by decide +kernel, by decide +kernel, by decide +kernel⟩, by decide +kernel, by decide⟩
theorem stJ2_getChar_3b067 : Cond.static yJ2_getChar_3b067 ∈ lw_tg := lw_tg_in (tb_2 (List.mem_of_getElem? (i := 186) rfl)) rfl
abbrev mX2_readChild : jv_M := (yX2_readChild, cX2_readChild, 4, some .boolean)
theorem okX2_readChild : jv_ok mX2_readChild 1 := ⟨lw_tg_in (tb_2 (List.mem_of_getElem? (i := 197) rfl)) rfl, lw_tg_in (tb_1 (List.mem_of_getElem? (i := 4) rfl)) rfl, ⟨by decide +kernel, by decide +kernel, by decide +kernel⟩, by decide +kernel, by decide⟩
theorem inX2_readChild : Cond.instanceMethod yX2_readChild ∈ lw_tg := lw_tg_in (tb_2 (List.mem_of_getElem? (i := 196) rfl)) rfl
theorem seX2_readChild : Cond.selects RX2 yX2_readChild yX2_readChild ∈ lw_tg := lw_tg_in (List.mem_of_getElem? (i := 8) (by decide +kernel)) rfl
abbrev mX2_nextNumber : jv_M := (yX2_nextNumber, cX2_nextNumber, 5, some .int)
theorem okX2_nextNumber : jv_ok mX2_nextNumber 2 := ⟨lw_tg_in (tb_2 (List.mem_of_getElem? (i := 201) rfl)) rfl, lw_tg_in (tb_1 (List.mem_of_getElem? (i := 4) rfl)) rfl, ⟨by decide +kernel, by decide +kernel, by decide +kernel⟩, by decide +kernel, by decide⟩
theorem inX2_nextNumber : Cond.instanceMethod yX2_nextNumber ∈ lw_tg := lw_tg_in (tb_2 (List.mem_of_getElem? (i := 200) rfl)) rfl
theorem seX2_nextNumber : Cond.selects RX2 yX2_nextNumber yX2_nextNumber ∈ lw_tg := lw_tg_in (List.mem_of_getElem? (i := 9) (by decide +kernel)) rfl
abbrev mX2_readCount : jv_M := (yX2_readCount, cX2_readCount, 5, some .boolean)
theorem okX2_readCount : jv_ok mX2_readCount 1 := ⟨lw_tg_in (tb_2 (List.mem_of_getElem? (i := 208) rfl)) rfl, lw_tg_in (tb_1 (List.mem_of_getElem? (i := 4) rfl)) rfl, ⟨by decide +kernel, by decide +kernel, by decide +kernel⟩, by decide +kernel, by decide⟩
theorem inX2_readCount : Cond.instanceMethod yX2_readCount ∈ lw_tg := lw_tg_in (tb_2 (List.mem_of_getElem? (i := 207) rfl)) rfl
theorem seX2_readCount : Cond.selects RX2 yX2_readCount yX2_readCount ∈ lw_tg := lw_tg_in (List.mem_of_getElem? (i := 10) (by decide +kernel)) rfl
abbrev mX2_readWish : jv_M := (yX2_readWish, cX2_readWish, 6, some .boolean)
theorem okX2_readWish : jv_ok mX2_readWish 2 := ⟨lw_tg_in (tb_2 (List.mem_of_getElem? (i := 214) rfl)) rfl, lw_tg_in (tb_1 (List.mem_of_getElem? (i := 4) rfl)) rfl, ⟨by decide +kernel, by decide +kernel, by decide +kernel⟩, by decide +kernel, by decide⟩
theorem inX2_readWish : Cond.instanceMethod yX2_readWish ∈ lw_tg := lw_tg_in (tb_2 (List.mem_of_getElem? (i := 213) rfl)) rfl
theorem seX2_readWish : Cond.selects RX2 yX2_readWish yX2_readWish ∈ lw_tg := lw_tg_in (List.mem_of_getElem? (i := 11) (by decide +kernel)) rfl
abbrev mX2_readSwap : jv_M := (yX2_readSwap, cX2_readSwap, 4, some .boolean)
theorem okX2_readSwap : jv_ok mX2_readSwap 1 := ⟨lw_tg_in (tb_2 (List.mem_of_getElem? (i := 221) rfl)) rfl, lw_tg_in (tb_1 (List.mem_of_getElem? (i := 4) rfl)) rfl, ⟨by decide +kernel, by decide +kernel, by decide +kernel⟩, by decide +kernel, by decide⟩
theorem inX2_readSwap : Cond.instanceMethod yX2_readSwap ∈ lw_tg := lw_tg_in (tb_2 (List.mem_of_getElem? (i := 220) rfl)) rfl
theorem seX2_readSwap : Cond.selects RX2 yX2_readSwap yX2_readSwap ∈ lw_tg := lw_tg_in (List.mem_of_getElem? (i := 12) (by decide +kernel)) rfl
abbrev mX3_exchange : jv_M := (yX3_exchange, cX3_exchange, 4, none)
theorem okX3_exchange : jv_ok mX3_exchange 2 := ⟨lw_tg_in (tb_2 (List.mem_of_getElem? (i := 225) rfl)) rfl, lw_tg_in (tb_1 (List.mem_of_getElem? (i := 2) rfl)) rfl, ⟨by decide +kernel, by decide +kernel, by decide +kernel⟩, by decide +kernel, by decide⟩
theorem inX3_exchange : Cond.instanceMethod yX3_exchange ∈ lw_tg := lw_tg_in (tb_2 (List.mem_of_getElem? (i := 223) rfl)) rfl
theorem seX3_exchange : Cond.selects RX3 yX3_exchange yX3_exchange ∈ lw_tg := lw_tg_in (tb_2 (List.mem_of_getElem? (i := 224) rfl)) rfl
abbrev mX3_stand : jv_M := (yX3_stand, cX3_stand, 3, none)
theorem okX3_stand : jv_ok mX3_stand 2 := ⟨lw_tg_in (tb_2 (List.mem_of_getElem? (i := 229) rfl)) rfl, lw_tg_in (tb_1 (List.mem_of_getElem? (i := 2) rfl)) rfl, ⟨by decide +kernel, by decide +kernel, by decide +kernel⟩, by decide +kernel, by decide⟩
theorem inX3_stand : Cond.instanceMethod yX3_stand ∈ lw_tg := lw_tg_in (tb_2 (List.mem_of_getElem? (i := 228) rfl)) rfl
theorem seX3_stand : Cond.selects RX3 yX3_stand yX3_stand ∈ lw_tg := lw_tg_in (List.mem_of_getElem? (i := 13) (by decide +kernel)) rfl
abbrev mX2_readMove : jv_M := (yX2_readMove, cX2_readMove, 4, some .boolean)
theorem okX2_readMove : jv_ok mX2_readMove 1 := ⟨lw_tg_in (tb_2 (List.mem_of_getElem? (i := 234) rfl)) rfl, lw_tg_in (tb_1 (List.mem_of_getElem? (i := 4) rfl)) rfl, ⟨by decide +kernel, by decide +kernel, by decide +kernel⟩, by decide +kernel, by decide⟩
theorem inX2_readMove : Cond.instanceMethod yX2_readMove ∈ lw_tg := lw_tg_in (tb_2 (List.mem_of_getElem? (i := 233) rfl)) rfl
theorem seX2_readMove : Cond.selects RX2 yX2_readMove yX2_readMove ∈ lw_tg := lw_tg_in (List.mem_of_getElem? (i := 14) (by decide +kernel)) rfl
abbrev mX3_shift : jv_M := (yX3_shift, cX3_shift, 5, none)
theorem okX3_shift : jv_ok mX3_shift 2 := ⟨lw_tg_in (tb_2 (List.mem_of_getElem? (i := 238) rfl)) rfl, lw_tg_in (tb_1 (List.mem_of_getElem? (i := 2) rfl)) rfl, ⟨by decide +kernel, by decide +kernel, by decide +kernel⟩, by decide +kernel, by decide⟩
theorem inX3_shift : Cond.instanceMethod yX3_shift ∈ lw_tg := lw_tg_in (tb_2 (List.mem_of_getElem? (i := 236) rfl)) rfl
theorem seX3_shift : Cond.selects RX3 yX3_shift yX3_shift ∈ lw_tg := lw_tg_in (tb_2 (List.mem_of_getElem? (i := 237) rfl)) rfl
abbrev mX4_childOf : jv_M := (yX4_childOf, cX4_childOf, 3, some .int)
theorem okX4_childOf : jv_ok mX4_childOf 2 := ⟨lw_tg_in (tb_3 (List.mem_of_getElem? (i := 3) rfl)) rfl, lw_tg_in (tb_1 (List.mem_of_getElem? (i := 1) rfl)) rfl, ⟨by decide +kernel, by decide +kernel, by decide +kernel⟩, by decide +kernel, by decide⟩
theorem inX4_childOf : Cond.instanceMethod yX4_childOf ∈ lw_tg := lw_tg_in (tb_3 (List.mem_of_getElem? (i := 1) rfl)) rfl
theorem seX4_childOf : Cond.selects RX4 yX4_childOf yX4_childOf ∈ lw_tg := lw_tg_in (tb_3 (List.mem_of_getElem? (i := 2) rfl)) rfl
abbrev mX3_wishesOf : jv_M := (yX3_wishesOf, cX3_wishesOf, 4, some .int)
theorem okX3_wishesOf : jv_ok mX3_wishesOf 1 := ⟨lw_tg_in (tb_3 (List.mem_of_getElem? (i := 7) rfl)) rfl, lw_tg_in (tb_1 (List.mem_of_getElem? (i := 2) rfl)) rfl, ⟨by decide +kernel, by decide +kernel, by decide +kernel⟩, by decide +kernel, by decide⟩
theorem inX3_wishesOf : Cond.instanceMethod yX3_wishesOf ∈ lw_tg := lw_tg_in (tb_3 (List.mem_of_getElem? (i := 5) rfl)) rfl
theorem seX3_wishesOf : Cond.selects RX3 yX3_wishesOf yX3_wishesOf ∈ lw_tg := lw_tg_in (tb_3 (List.mem_of_getElem? (i := 6) rfl)) rfl
abbrev mX4_countOf : jv_M := (yX4_countOf, cX4_countOf, 3, some .int)
theorem okX4_countOf : jv_ok mX4_countOf 2 := ⟨lw_tg_in (tb_3 (List.mem_of_getElem? (i := 11) rfl)) rfl, lw_tg_in (tb_1 (List.mem_of_getElem? (i := 1) rfl)) rfl, ⟨by decide +kernel, by decide +kernel, by decide +kernel⟩, by decide +kernel, by decide⟩
theorem inX4_countOf : Cond.instanceMethod yX4_countOf ∈ lw_tg := lw_tg_in (tb_3 (List.mem_of_getElem? (i := 9) rfl)) rfl
theorem seX4_countOf : Cond.selects RX4 yX4_countOf yX4_countOf ∈ lw_tg := lw_tg_in (tb_3 (List.mem_of_getElem? (i := 10) rfl)) rfl
abbrev mX4_wishOf : jv_M := (yX4_wishOf, cX4_wishOf, 3, some .int)
theorem okX4_wishOf : jv_ok mX4_wishOf 2 := ⟨lw_tg_in (tb_3 (List.mem_of_getElem? (i := 15) rfl)) rfl, lw_tg_in (tb_1 (List.mem_of_getElem? (i := 1) rfl)) rfl, ⟨by decide +kernel, by decide +kernel, by decide +kernel⟩, by decide +kernel, by decide⟩
theorem inX4_wishOf : Cond.instanceMethod yX4_wishOf ∈ lw_tg := lw_tg_in (tb_3 (List.mem_of_getElem? (i := 13) rfl)) rfl
theorem seX4_wishOf : Cond.selects RX4 yX4_wishOf yX4_wishOf ∈ lw_tg := lw_tg_in (tb_3 (List.mem_of_getElem? (i := 14) rfl)) rfl
abbrev mX3_hasWish : jv_M := (yX3_hasWish, cX3_hasWish, 2, some .boolean)
theorem okX3_hasWish : jv_ok mX3_hasWish 1 := ⟨lw_tg_in (tb_3 (List.mem_of_getElem? (i := 19) rfl)) rfl, lw_tg_in (tb_1 (List.mem_of_getElem? (i := 2) rfl)) rfl, ⟨by decide +kernel, by decide +kernel, by decide +kernel⟩, by decide +kernel, by decide⟩
theorem inX3_hasWish : Cond.instanceMethod yX3_hasWish ∈ lw_tg := lw_tg_in (tb_3 (List.mem_of_getElem? (i := 17) rfl)) rfl
theorem seX3_hasWish : Cond.selects RX3 yX3_hasWish yX3_hasWish ∈ lw_tg := lw_tg_in (tb_3 (List.mem_of_getElem? (i := 18) rfl)) rfl
abbrev mX4_at : jv_M := (yX4_at, cX4_at, 2, some .int)
theorem okX4_at : jv_ok mX4_at 1 := ⟨lw_tg_in (tb_3 (List.mem_of_getElem? (i := 23) rfl)) rfl, lw_tg_in (tb_1 (List.mem_of_getElem? (i := 1) rfl)) rfl, ⟨by decide +kernel, by decide +kernel, by decide +kernel⟩, by decide +kernel, by decide⟩
theorem inX4_at : Cond.instanceMethod yX4_at ∈ lw_tg := lw_tg_in (tb_3 (List.mem_of_getElem? (i := 21) rfl)) rfl
theorem seX4_at : Cond.selects RX4 yX4_at yX4_at ∈ lw_tg := lw_tg_in (tb_3 (List.mem_of_getElem? (i := 22) rfl)) rfl
abbrev mX3_hasPlace : jv_M := (yX3_hasPlace, cX3_hasPlace, 2, some .boolean)
theorem okX3_hasPlace : jv_ok mX3_hasPlace 1 := ⟨lw_tg_in (tb_3 (List.mem_of_getElem? (i := 27) rfl)) rfl, lw_tg_in (tb_1 (List.mem_of_getElem? (i := 2) rfl)) rfl, ⟨by decide +kernel, by decide +kernel, by decide +kernel⟩, by decide +kernel, by decide⟩
theorem inX3_hasPlace : Cond.instanceMethod yX3_hasPlace ∈ lw_tg := lw_tg_in (tb_3 (List.mem_of_getElem? (i := 25) rfl)) rfl
theorem seX3_hasPlace : Cond.selects RX3 yX3_hasPlace yX3_hasPlace ∈ lw_tg := lw_tg_in (tb_3 (List.mem_of_getElem? (i := 26) rfl)) rfl
abbrev mX4_team : jv_M := (yX4_team, cX4_team, 3, some .int)
theorem okX4_team : jv_ok mX4_team 2 := ⟨lw_tg_in (tb_3 (List.mem_of_getElem? (i := 31) rfl)) rfl, lw_tg_in (tb_1 (List.mem_of_getElem? (i := 1) rfl)) rfl, ⟨by decide +kernel, by decide +kernel, by decide +kernel⟩, by decide +kernel, by decide⟩
theorem inX4_team : Cond.instanceMethod yX4_team ∈ lw_tg := lw_tg_in (tb_3 (List.mem_of_getElem? (i := 29) rfl)) rfl
theorem seX4_team : Cond.selects RX4 yX4_team yX4_team ∈ lw_tg := lw_tg_in (tb_3 (List.mem_of_getElem? (i := 30) rfl)) rfl
abbrev mX3_sideOf : jv_M := (yX3_sideOf, cX3_sideOf, 3, some .int)
theorem okX3_sideOf : jv_ok mX3_sideOf 2 := ⟨lw_tg_in (tb_3 (List.mem_of_getElem? (i := 35) rfl)) rfl, lw_tg_in (tb_1 (List.mem_of_getElem? (i := 2) rfl)) rfl, ⟨by decide +kernel, by decide +kernel, by decide +kernel⟩, by decide +kernel, by decide⟩
theorem inX3_sideOf : Cond.instanceMethod yX3_sideOf ∈ lw_tg := lw_tg_in (tb_3 (List.mem_of_getElem? (i := 33) rfl)) rfl
theorem seX3_sideOf : Cond.selects RX3 yX3_sideOf yX3_sideOf ∈ lw_tg := lw_tg_in (tb_3 (List.mem_of_getElem? (i := 34) rfl)) rfl
abbrev mX4_members : jv_M := (yX4_members, cX4_members, 3, some .int)
theorem okX4_members : jv_ok mX4_members 2 := ⟨lw_tg_in (tb_3 (List.mem_of_getElem? (i := 40) rfl)) rfl, lw_tg_in (tb_1 (List.mem_of_getElem? (i := 1) rfl)) rfl, ⟨by decide +kernel, by decide +kernel, by decide +kernel⟩, by decide +kernel, by decide⟩
theorem inX4_members : Cond.instanceMethod yX4_members ∈ lw_tg := lw_tg_in (tb_3 (List.mem_of_getElem? (i := 38) rfl)) rfl
theorem seX4_members : Cond.selects RX4 yX4_members yX4_members ∈ lw_tg := lw_tg_in (tb_3 (List.mem_of_getElem? (i := 39) rfl)) rfl
abbrev mX3_hasTeam : jv_M := (yX3_hasTeam, cX3_hasTeam, 3, some .boolean)
theorem okX3_hasTeam : jv_ok mX3_hasTeam 2 := ⟨lw_tg_in (tb_3 (List.mem_of_getElem? (i := 44) rfl)) rfl, lw_tg_in (tb_1 (List.mem_of_getElem? (i := 2) rfl)) rfl, ⟨by decide +kernel, by decide +kernel, by decide +kernel⟩, by decide +kernel, by decide⟩
theorem inX3_hasTeam : Cond.instanceMethod yX3_hasTeam ∈ lw_tg := lw_tg_in (tb_3 (List.mem_of_getElem? (i := 42) rfl)) rfl
theorem seX3_hasTeam : Cond.selects RX3 yX3_hasTeam yX3_hasTeam ∈ lw_tg := lw_tg_in (tb_3 (List.mem_of_getElem? (i := 43) rfl)) rfl
abbrev mX3_bitsOfSide : jv_M := (yX3_bitsOfSide, cX3_bitsOfSide, 5, some .int)
theorem okX3_bitsOfSide : jv_ok mX3_bitsOfSide 2 := ⟨lw_tg_in (tb_3 (List.mem_of_getElem? (i := 49) rfl)) rfl, lw_tg_in (tb_1 (List.mem_of_getElem? (i := 2) rfl)) rfl, ⟨by decide +kernel, by decide +kernel, by decide +kernel⟩, by decide +kernel, by decide⟩
theorem inX3_bitsOfSide : Cond.instanceMethod yX3_bitsOfSide ∈ lw_tg := lw_tg_in (tb_3 (List.mem_of_getElem? (i := 47) rfl)) rfl
theorem seX3_bitsOfSide : Cond.selects RX3 yX3_bitsOfSide yX3_bitsOfSide ∈ lw_tg := lw_tg_in (tb_3 (List.mem_of_getElem? (i := 48) rfl)) rfl
abbrev mX4_strength : jv_M := (yX4_strength, cX4_strength, 3, some .int)
theorem okX4_strength : jv_ok mX4_strength 2 := ⟨lw_tg_in (tb_3 (List.mem_of_getElem? (i := 54) rfl)) rfl, lw_tg_in (tb_1 (List.mem_of_getElem? (i := 1) rfl)) rfl, ⟨by decide +kernel, by decide +kernel, by decide +kernel⟩, by decide +kernel, by decide⟩
theorem inX4_strength : Cond.instanceMethod yX4_strength ∈ lw_tg := lw_tg_in (tb_3 (List.mem_of_getElem? (i := 52) rfl)) rfl
theorem seX4_strength : Cond.selects RX4 yX4_strength yX4_strength ∈ lw_tg := lw_tg_in (tb_3 (List.mem_of_getElem? (i := 53) rfl)) rfl
abbrev mX3_strongOfSide : jv_M := (yX3_strongOfSide, cX3_strongOfSide, 5, some .int)
theorem okX3_strongOfSide : jv_ok mX3_strongOfSide 2 := ⟨lw_tg_in (tb_3 (List.mem_of_getElem? (i := 58) rfl)) rfl, lw_tg_in (tb_1 (List.mem_of_getElem? (i := 2) rfl)) rfl, ⟨by decide +kernel, by decide +kernel, by decide +kernel⟩, by decide +kernel, by decide⟩
theorem inX3_strongOfSide : Cond.instanceMethod yX3_strongOfSide ∈ lw_tg := lw_tg_in (tb_3 (List.mem_of_getElem? (i := 56) rfl)) rfl
theorem seX3_strongOfSide : Cond.selects RX3 yX3_strongOfSide yX3_strongOfSide ∈ lw_tg := lw_tg_in (tb_3 (List.mem_of_getElem? (i := 57) rfl)) rfl
abbrev mX4_heaviest : jv_M := (yX4_heaviest, cX4_heaviest, 4, some .int)
theorem okX4_heaviest : jv_ok mX4_heaviest 1 := ⟨lw_tg_in (tb_3 (List.mem_of_getElem? (i := 62) rfl)) rfl, lw_tg_in (tb_1 (List.mem_of_getElem? (i := 1) rfl)) rfl, ⟨by decide +kernel, by decide +kernel, by decide +kernel⟩, by decide +kernel, by decide⟩
theorem inX4_heaviest : Cond.instanceMethod yX4_heaviest ∈ lw_tg := lw_tg_in (tb_3 (List.mem_of_getElem? (i := 60) rfl)) rfl
theorem seX4_heaviest : Cond.selects RX4 yX4_heaviest yX4_heaviest ∈ lw_tg := lw_tg_in (tb_3 (List.mem_of_getElem? (i := 61) rfl)) rfl
abbrev mX4_turned : jv_M := (yX4_turned, cX4_turned, 2, some .int)
theorem okX4_turned : jv_ok mX4_turned 1 := ⟨lw_tg_in (tb_3 (List.mem_of_getElem? (i := 66) rfl)) rfl, lw_tg_in (tb_1 (List.mem_of_getElem? (i := 1) rfl)) rfl, ⟨by decide +kernel, by decide +kernel, by decide +kernel⟩, by decide +kernel, by decide⟩
theorem inX4_turned : Cond.instanceMethod yX4_turned ∈ lw_tg := lw_tg_in (tb_3 (List.mem_of_getElem? (i := 64) rfl)) rfl
theorem seX4_turned : Cond.selects RX4 yX4_turned yX4_turned ∈ lw_tg := lw_tg_in (tb_3 (List.mem_of_getElem? (i := 65) rfl)) rfl
abbrev mX3_turnAbout : jv_M := (yX3_turnAbout, cX3_turnAbout, 2, none)
theorem okX3_turnAbout : jv_ok mX3_turnAbout 0 := ⟨lw_tg_in (tb_3 (List.mem_of_getElem? (i := 70) rfl)) rfl, lw_tg_in (tb_1 (List.mem_of_getElem? (i := 2) rfl)) rfl, ⟨by decide +kernel, by decide +kernel, by decide +kernel⟩, by decide +kernel, by decide⟩
theorem inX3_turnAbout : Cond.instanceMethod yX3_turnAbout ∈ lw_tg := lw_tg_in (tb_3 (List.mem_of_getElem? (i := 68) rfl)) rfl
theorem seX3_turnAbout : Cond.selects RX3 yX3_turnAbout yX3_turnAbout ∈ lw_tg := lw_tg_in (tb_3 (List.mem_of_getElem? (i := 69) rfl)) rfl
abbrev mX3_valueBy : jv_M := (yX3_valueBy, cX3_valueBy, 4, some .int)
theorem okX3_valueBy : jv_ok mX3_valueBy 1 := ⟨lw_tg_in (tb_3 (List.mem_of_getElem? (i := 75) rfl)) rfl, lw_tg_in (tb_1 (List.mem_of_getElem? (i := 2) rfl)) rfl, ⟨by decide +kernel, by decide +kernel, by decide +kernel⟩, by decide +kernel, by decide⟩
theorem inX3_valueBy : Cond.instanceMethod yX3_valueBy ∈ lw_tg := lw_tg_in (tb_3 (List.mem_of_getElem? (i := 73) rfl)) rfl
theorem seX3_valueBy : Cond.selects RX3 yX3_valueBy yX3_valueBy ∈ lw_tg := lw_tg_in (tb_3 (List.mem_of_getElem? (i := 74) rfl)) rfl
abbrev mX3_isMet : jv_M := (yX3_isMet, cX3_isMet, 5, some .boolean)
theorem okX3_isMet : jv_ok mX3_isMet 2 := ⟨lw_tg_in (tb_3 (List.mem_of_getElem? (i := 79) rfl)) rfl, lw_tg_in (tb_1 (List.mem_of_getElem? (i := 2) rfl)) rfl, ⟨by decide +kernel, by decide +kernel, by decide +kernel⟩, by decide +kernel, by decide⟩
theorem inX3_isMet : Cond.instanceMethod yX3_isMet ∈ lw_tg := lw_tg_in (tb_3 (List.mem_of_getElem? (i := 77) rfl)) rfl
theorem seX3_isMet : Cond.selects RX3 yX3_isMet yX3_isMet ∈ lw_tg := lw_tg_in (tb_3 (List.mem_of_getElem? (i := 78) rfl)) rfl
abbrev mX4_unlike : jv_M := (yX4_unlike, cX4_unlike, 5, some .int)
theorem okX4_unlike : jv_ok mX4_unlike 2 := ⟨lw_tg_in (tb_3 (List.mem_of_getElem? (i := 83) rfl)) rfl, lw_tg_in (tb_1 (List.mem_of_getElem? (i := 1) rfl)) rfl, ⟨by decide +kernel, by decide +kernel, by decide +kernel⟩, by decide +kernel, by decide⟩
theorem inX4_unlike : Cond.instanceMethod yX4_unlike ∈ lw_tg := lw_tg_in (tb_3 (List.mem_of_getElem? (i := 81) rfl)) rfl
theorem seX4_unlike : Cond.selects RX4 yX4_unlike yX4_unlike ∈ lw_tg := lw_tg_in (tb_3 (List.mem_of_getElem? (i := 82) rfl)) rfl
abbrev mX4_unmet : jv_M := (yX4_unmet, cX4_unmet, 5, some .int)
theorem okX4_unmet : jv_ok mX4_unmet 1 := ⟨lw_tg_in (tb_3 (List.mem_of_getElem? (i := 87) rfl)) rfl, lw_tg_in (tb_1 (List.mem_of_getElem? (i := 1) rfl)) rfl, ⟨by decide +kernel, by decide +kernel, by decide +kernel⟩, by decide +kernel, by decide⟩
theorem inX4_unmet : Cond.instanceMethod yX4_unmet ∈ lw_tg := lw_tg_in (tb_3 (List.mem_of_getElem? (i := 85) rfl)) rfl
theorem seX4_unmet : Cond.selects RX4 yX4_unmet yX4_unmet ∈ lw_tg := lw_tg_in (tb_3 (List.mem_of_getElem? (i := 86) rfl)) rfl
abbrev mX4_friendsOf : jv_M := (yX4_friendsOf, cX4_friendsOf, 2, some .int)
theorem okX4_friendsOf : jv_ok mX4_friendsOf 1 := ⟨lw_tg_in (tb_3 (List.mem_of_getElem? (i := 92) rfl)) rfl, lw_tg_in (tb_1 (List.mem_of_getElem? (i := 1) rfl)) rfl, ⟨by decide +kernel, by decide +kernel, by decide +kernel⟩, by decide +kernel, by decide⟩
theorem inX4_friendsOf : Cond.instanceMethod yX4_friendsOf ∈ lw_tg := lw_tg_in (tb_3 (List.mem_of_getElem? (i := 90) rfl)) rfl
theorem seX4_friendsOf : Cond.selects RX4 yX4_friendsOf yX4_friendsOf ∈ lw_tg := lw_tg_in (tb_3 (List.mem_of_getElem? (i := 91) rfl)) rfl
abbrev mX3_hangingWith : jv_M := (yX3_hangingWith, cX3_hangingWith, 7, some .int)
theorem okX3_hangingWith : jv_ok mX3_hangingWith 1 := ⟨lw_tg_in (tb_3 (List.mem_of_getElem? (i := 96) rfl)) rfl, lw_tg_in (tb_1 (List.mem_of_getElem? (i := 2) rfl)) rfl, ⟨by decide +kernel, by decide +kernel, by decide +kernel⟩, by decide +kernel, by decide⟩
theorem inX3_hangingWith : Cond.instanceMethod yX3_hangingWith ∈ lw_tg := lw_tg_in (tb_3 (List.mem_of_getElem? (i := 94) rfl)) rfl
theorem seX3_hangingWith : Cond.selects RX3 yX3_hangingWith yX3_hangingWith ∈ lw_tg := lw_tg_in (tb_3 (List.mem_of_getElem? (i := 95) rfl)) rfl
abbrev mX4_groups : jv_M := (yX4_groups, cX4_groups, 4, some .int)
theorem okX4_groups : jv_ok mX4_groups 0 := ⟨lw_tg_in (tb_3 (List.mem_of_getElem? (i := 100) rfl)) rfl, lw_tg_in (tb_1 (List.mem_of_getElem? (i := 1) rfl)) rfl, ⟨by decide +kernel, by decide +kernel, by decide +kernel⟩, by decide +kernel, by decide⟩
theorem inX4_groups : Cond.instanceMethod yX4_groups ∈ lw_tg := lw_tg_in (tb_3 (List.mem_of_getElem? (i := 98) rfl)) rfl
theorem seX4_groups : Cond.selects RX4 yX4_groups yX4_groups ∈ lw_tg := lw_tg_in (tb_3 (List.mem_of_getElem? (i := 99) rfl)) rfl
abbrev mX4_conflict : jv_M := (yX4_conflict, cX4_conflict, 2, some .int)
theorem okX4_conflict : jv_ok mX4_conflict 0 := ⟨lw_tg_in (tb_3 (List.mem_of_getElem? (i := 104) rfl)) rfl, lw_tg_in (tb_1 (List.mem_of_getElem? (i := 1) rfl)) rfl, ⟨by decide +kernel, by decide +kernel, by decide +kernel⟩, by decide +kernel, by decide⟩
theorem inX4_conflict : Cond.instanceMethod yX4_conflict ∈ lw_tg := lw_tg_in (tb_3 (List.mem_of_getElem? (i := 102) rfl)) rfl
theorem seX4_conflict : Cond.selects RX4 yX4_conflict yX4_conflict ∈ lw_tg := lw_tg_in (tb_3 (List.mem_of_getElem? (i := 103) rfl)) rfl
abbrev mX4_changes : jv_M := (yX4_changes, cX4_changes, 3, some .int)
theorem okX4_changes : jv_ok mX4_changes 2 := ⟨lw_tg_in (tb_3 (List.mem_of_getElem? (i := 108) rfl)) rfl, lw_tg_in (tb_1 (List.mem_of_getElem? (i := 1) rfl)) rfl, ⟨by decide +kernel, by decide +kernel, by decide +kernel⟩, by decide +kernel, by decide⟩
theorem inX4_changes : Cond.instanceMethod yX4_changes ∈ lw_tg := lw_tg_in (tb_3 (List.mem_of_getElem? (i := 106) rfl)) rfl
theorem seX4_changes : Cond.selects RX4 yX4_changes yX4_changes ∈ lw_tg := lw_tg_in (tb_3 (List.mem_of_getElem? (i := 107) rfl)) rfl
abbrev mX0_fewestChanges : jv_M := (yX0_fewestChanges, cX0_fewestChanges, 3, some .int)
theorem okX0_fewestChanges : jv_ok mX0_fewestChanges 2 := ⟨lw_tg_in (tb_3 (List.mem_of_getElem? (i := 112) rfl)) rfl, lw_tg_in (tb_1 (List.mem_of_getElem? (i := 3) rfl)) rfl, ⟨by decide +kernel, by decide +kernel, by decide +kernel⟩, by decide +kernel, by decide⟩
theorem inX0_fewestChanges : Cond.instanceMethod yX0_fewestChanges ∈ lw_tg := lw_tg_in (tb_3 (List.mem_of_getElem? (i := 110) rfl)) rfl
theorem seX0_fewestChanges : Cond.selects RX0 yX0_fewestChanges yX0_fewestChanges ∈ lw_tg := lw_tg_in (tb_3 (List.mem_of_getElem? (i := 111) rfl)) rfl
abbrev mX0_takeSides : jv_M := (yX0_takeSides, cX0_takeSides, 3, none)
theorem okX0_takeSides : jv_ok mX0_takeSides 1 := ⟨lw_tg_in (tb_3 (List.mem_of_getElem? (i := 116) rfl)) rfl, lw_tg_in (tb_1 (List.mem_of_getElem? (i := 3) rfl)) rfl, ⟨by decide +kernel, by decide +kernel, by decide +kernel⟩, by decide +kernel, by decide⟩
theorem inX0_takeSides : Cond.instanceMethod yX0_takeSides ∈ lw_tg := lw_tg_in (tb_3 (List.mem_of_getElem? (i := 115) rfl)) rfl
theorem seX0_takeSides : Cond.selects RX0 yX0_takeSides yX0_takeSides ∈ lw_tg := lw_tg_in (List.mem_of_getElem? (i := 15) (by decide +kernel)) rfl
abbrev mX0_valueOfSides : jv_M := (yX0_valueOfSides, cX0_valueOfSides, 4, some .int)
theorem okX0_valueOfSides : jv_ok mX0_valueOfSides 0 := ⟨lw_tg_in (tb_3 (List.mem_of_getElem? (i := 121) rfl)) rfl, lw_tg_in (tb_1 (List.mem_of_getElem? (i := 3) rfl)) rfl, ⟨by decide +kernel, by decide +kernel, by decide +kernel⟩, by decide +kernel, by decide⟩
theorem inX0_valueOfSides : Cond.instanceMethod yX0_valueOfSides ∈ lw_tg := lw_tg_in (tb_3 (List.mem_of_getElem? (i := 120) rfl)) rfl
theorem seX0_valueOfSides : Cond.selects RX0 yX0_valueOfSides yX0_valueOfSides ∈ lw_tg := lw_tg_in (List.mem_of_getElem? (i := 16) (by decide +kernel)) rfl
abbrev mX3_allWorths : jv_M := (yX3_allWorths, cX3_allWorths, 3, some .int)
theorem okX3_allWorths : jv_ok mX3_allWorths 0 := ⟨lw_tg_in (tb_3 (List.mem_of_getElem? (i := 125) rfl)) rfl, lw_tg_in (tb_1 (List.mem_of_getElem? (i := 2) rfl)) rfl, ⟨by decide +kernel, by decide +kernel, by decide +kernel⟩, by decide +kernel, by decide⟩
theorem inX3_allWorths : Cond.instanceMethod yX3_allWorths ∈ lw_tg := lw_tg_in (tb_3 (List.mem_of_getElem? (i := 123) rfl)) rfl
theorem seX3_allWorths : Cond.selects RX3 yX3_allWorths yX3_allWorths ∈ lw_tg := lw_tg_in (tb_3 (List.mem_of_getElem? (i := 124) rfl)) rfl
abbrev mX0_oneChangeReaches : jv_M := (yX0_oneChangeReaches, cX0_oneChangeReaches, 6, some .boolean)
theorem okX0_oneChangeReaches : jv_ok mX0_oneChangeReaches 3 := ⟨lw_tg_in (tb_3 (List.mem_of_getElem? (i := 129) rfl)) rfl, lw_tg_in (tb_1 (List.mem_of_getElem? (i := 3) rfl)) rfl, ⟨by decide +kernel, by decide +kernel, by decide +kernel⟩, by decide +kernel, by decide⟩
theorem inX0_oneChangeReaches : Cond.instanceMethod yX0_oneChangeReaches ∈ lw_tg := lw_tg_in (tb_3 (List.mem_of_getElem? (i := 128) rfl)) rfl
theorem seX0_oneChangeReaches : Cond.selects RX0 yX0_oneChangeReaches yX0_oneChangeReaches ∈ lw_tg := lw_tg_in (List.mem_of_getElem? (i := 17) (by decide +kernel)) rfl
abbrev mX0_valueWithChange : jv_M := (yX0_valueWithChange, cX0_valueWithChange, 4, some .int)
theorem okX0_valueWithChange : jv_ok mX0_valueWithChange 2 := ⟨lw_tg_in (tb_3 (List.mem_of_getElem? (i := 133) rfl)) rfl, lw_tg_in (tb_1 (List.mem_of_getElem? (i := 3) rfl)) rfl, ⟨by decide +kernel, by decide +kernel, by decide +kernel⟩, by decide +kernel, by decide⟩
theorem inX0_valueWithChange : Cond.instanceMethod yX0_valueWithChange ∈ lw_tg := lw_tg_in (tb_3 (List.mem_of_getElem? (i := 132) rfl)) rfl
theorem seX0_valueWithChange : Cond.selects RX0 yX0_valueWithChange yX0_valueWithChange ∈ lw_tg := lw_tg_in (List.mem_of_getElem? (i := 18) (by decide +kernel)) rfl
abbrev mX0_exchangeSides : jv_M := (yX0_exchangeSides, cX0_exchangeSides, 4, none)
theorem okX0_exchangeSides : jv_ok mX0_exchangeSides 2 := ⟨lw_tg_in (tb_3 (List.mem_of_getElem? (i := 137) rfl)) rfl, lw_tg_in (tb_1 (List.mem_of_getElem? (i := 3) rfl)) rfl, ⟨by decide +kernel, by decide +kernel, by decide +kernel⟩, by decide +kernel, by decide⟩
theorem inX0_exchangeSides : Cond.instanceMethod yX0_exchangeSides ∈ lw_tg := lw_tg_in (tb_3 (List.mem_of_getElem? (i := 136) rfl)) rfl
theorem seX0_exchangeSides : Cond.selects RX0 yX0_exchangeSides yX0_exchangeSides ∈ lw_tg := lw_tg_in (List.mem_of_getElem? (i := 19) (by decide +kernel)) rfl
abbrev mX0_twoChangesReach : jv_M := (yX0_twoChangesReach, cX0_twoChangesReach, 5, some .boolean)
theorem okX0_twoChangesReach : jv_ok mX0_twoChangesReach 1 := ⟨lw_tg_in (tb_3 (List.mem_of_getElem? (i := 141) rfl)) rfl, lw_tg_in (tb_1 (List.mem_of_getElem? (i := 3) rfl)) rfl, ⟨by decide +kernel, by decide +kernel, by decide +kernel⟩, by decide +kernel, by decide⟩
theorem inX0_twoChangesReach : Cond.instanceMethod yX0_twoChangesReach ∈ lw_tg := lw_tg_in (tb_3 (List.mem_of_getElem? (i := 140) rfl)) rfl
theorem seX0_twoChangesReach : Cond.selects RX0 yX0_twoChangesReach yX0_twoChangesReach ∈ lw_tg := lw_tg_in (List.mem_of_getElem? (i := 20) (by decide +kernel)) rfl
abbrev mX4_place : jv_M := (yX4_place, cX4_place, 2, some .int)
theorem okX4_place : jv_ok mX4_place 1 := ⟨lw_tg_in (tb_3 (List.mem_of_getElem? (i := 145) rfl)) rfl, lw_tg_in (tb_1 (List.mem_of_getElem? (i := 1) rfl)) rfl, ⟨by decide +kernel, by decide +kernel, by decide +kernel⟩, by decide +kernel, by decide⟩
theorem inX4_place : Cond.instanceMethod yX4_place ∈ lw_tg := lw_tg_in (tb_3 (List.mem_of_getElem? (i := 143) rfl)) rfl
theorem seX4_place : Cond.selects RX4 yX4_place yX4_place ∈ lw_tg := lw_tg_in (tb_3 (List.mem_of_getElem? (i := 144) rfl)) rfl
abbrev mX0_bestPlace : jv_M := (yX0_bestPlace, cX0_bestPlace, 7, some .int)
theorem okX0_bestPlace : jv_ok mX0_bestPlace 1 := ⟨lw_tg_in (tb_3 (List.mem_of_getElem? (i := 149) rfl)) rfl, lw_tg_in (tb_1 (List.mem_of_getElem? (i := 3) rfl)) rfl, ⟨by decide +kernel, by decide +kernel, by decide +kernel⟩, by decide +kernel, by decide⟩
theorem inX0_bestPlace : Cond.instanceMethod yX0_bestPlace ∈ lw_tg := lw_tg_in (tb_3 (List.mem_of_getElem? (i := 147) rfl)) rfl
theorem seX0_bestPlace : Cond.selects RX0 yX0_bestPlace yX0_bestPlace ∈ lw_tg := lw_tg_in (tb_3 (List.mem_of_getElem? (i := 148) rfl)) rfl
abbrev mX3_valueByAll : jv_M := (yX3_valueByAll, cX3_valueByAll, 3, some .int)
theorem okX3_valueByAll : jv_ok mX3_valueByAll 0 := ⟨lw_tg_in (tb_3 (List.mem_of_getElem? (i := 154) rfl)) rfl, lw_tg_in (tb_1 (List.mem_of_getElem? (i := 2) rfl)) rfl, ⟨by decide +kernel, by decide +kernel, by decide +kernel⟩, by decide +kernel, by decide⟩
theorem inX3_valueByAll : Cond.instanceMethod yX3_valueByAll ∈ lw_tg := lw_tg_in (tb_3 (List.mem_of_getElem? (i := 152) rfl)) rfl
theorem seX3_valueByAll : Cond.selects RX3 yX3_valueByAll yX3_valueByAll ∈ lw_tg := lw_tg_in (tb_3 (List.mem_of_getElem? (i := 153) rfl)) rfl
abbrev mX4_value : jv_M := (yX4_value, cX4_value, 2, some .int)
theorem okX4_value : jv_ok mX4_value 1 := ⟨lw_tg_in (tb_3 (List.mem_of_getElem? (i := 159) rfl)) rfl, lw_tg_in (tb_1 (List.mem_of_getElem? (i := 1) rfl)) rfl, ⟨by decide +kernel, by decide +kernel, by decide +kernel⟩, by decide +kernel, by decide⟩
theorem inX4_value : Cond.instanceMethod yX4_value ∈ lw_tg := lw_tg_in (tb_3 (List.mem_of_getElem? (i := 157) rfl)) rfl
theorem seX4_value : Cond.selects RX4 yX4_value yX4_value ∈ lw_tg := lw_tg_in (tb_3 (List.mem_of_getElem? (i := 158) rfl)) rfl
abbrev mX4_met : jv_M := (yX4_met, cX4_met, 3, some .int)
theorem okX4_met : jv_ok mX4_met 2 := ⟨lw_tg_in (tb_3 (List.mem_of_getElem? (i := 163) rfl)) rfl, lw_tg_in (tb_1 (List.mem_of_getElem? (i := 1) rfl)) rfl, ⟨by decide +kernel, by decide +kernel, by decide +kernel⟩, by decide +kernel, by decide⟩
theorem inX4_met : Cond.instanceMethod yX4_met ∈ lw_tg := lw_tg_in (tb_3 (List.mem_of_getElem? (i := 161) rfl)) rfl
theorem seX4_met : Cond.selects RX4 yX4_met yX4_met ∈ lw_tg := lw_tg_in (tb_3 (List.mem_of_getElem? (i := 162) rfl)) rfl
abbrev mX4_best : jv_M := (yX4_best, cX4_best, 4, some .int)
theorem okX4_best : jv_ok mX4_best 1 := ⟨lw_tg_in (tb_3 (List.mem_of_getElem? (i := 167) rfl)) rfl, lw_tg_in (tb_1 (List.mem_of_getElem? (i := 1) rfl)) rfl, ⟨by decide +kernel, by decide +kernel, by decide +kernel⟩, by decide +kernel, by decide⟩
theorem inX4_best : Cond.instanceMethod yX4_best ∈ lw_tg := lw_tg_in (tb_3 (List.mem_of_getElem? (i := 165) rfl)) rfl
theorem seX4_best : Cond.selects RX4 yX4_best yX4_best ∈ lw_tg := lw_tg_in (tb_3 (List.mem_of_getElem? (i := 166) rfl)) rfl
abbrev mX4_merit : jv_M := (yX4_merit, cX4_merit, 4, some .int)
theorem okX4_merit : jv_ok mX4_merit 2 := ⟨lw_tg_in (tb_3 (List.mem_of_getElem? (i := 171) rfl)) rfl, lw_tg_in (tb_1 (List.mem_of_getElem? (i := 1) rfl)) rfl, ⟨by decide +kernel, by decide +kernel, by decide +kernel⟩, by decide +kernel, by decide⟩
theorem inX4_merit : Cond.instanceMethod yX4_merit ∈ lw_tg := lw_tg_in (tb_3 (List.mem_of_getElem? (i := 170) rfl)) rfl
theorem seX4_merit : Cond.selects RX4 yX4_merit yX4_merit ∈ lw_tg := lw_tg_in (List.mem_of_getElem? (i := 21) (by decide +kernel)) rfl
abbrev mX3_unevenness : jv_M := (yX3_unevenness, cX3_unevenness, 6, some .int)
theorem okX3_unevenness : jv_ok mX3_unevenness 1 := ⟨lw_tg_in (tb_3 (List.mem_of_getElem? (i := 175) rfl)) rfl, lw_tg_in (tb_1 (List.mem_of_getElem? (i := 2) rfl)) rfl, ⟨by decide +kernel, by decide +kernel, by decide +kernel⟩, by decide +kernel, by decide⟩
theorem inX3_unevenness : Cond.instanceMethod yX3_unevenness ∈ lw_tg := lw_tg_in (tb_3 (List.mem_of_getElem? (i := 173) rfl)) rfl
theorem seX3_unevenness : Cond.selects RX3 yX3_unevenness yX3_unevenness ∈ lw_tg := lw_tg_in (tb_3 (List.mem_of_getElem? (i := 174) rfl)) rfl
abbrev mJ9_max_7cf53 : jv_M := (yJ9_max_7cf53, cJ9_max_7cf53, 2, some .int)
theorem stJ9_max_7cf53 : Cond.static yJ9_max_7cf53 ∈ lw_tg := lw_tg_in (tb_3 (List.mem_of_getElem? (i := 178) rfl)) rfl
abbrev mJ9_min_7cf53 : jv_M := (yJ9_min_7cf53, cJ9_min_7cf53, 2, some .int)
theorem stJ9_min_7cf53 : Cond.static yJ9_min_7cf53 ∈ lw_tg := lw_tg_in (tb_3 (List.mem_of_getElem? (i := 181) rfl)) rfl
abbrev mX4_even : jv_M := (yX4_even, cX4_even, 2, some .int)
theorem okX4_even : jv_ok mX4_even 1 := ⟨lw_tg_in (tb_3 (List.mem_of_getElem? (i := 186) rfl)) rfl, lw_tg_in (tb_1 (List.mem_of_getElem? (i := 1) rfl)) rfl, ⟨by decide +kernel, by decide +kernel, by decide +kernel⟩, by decide +kernel, by decide⟩
theorem inX4_even : Cond.instanceMethod yX4_even ∈ lw_tg := lw_tg_in (tb_3 (List.mem_of_getElem? (i := 184) rfl)) rfl
theorem seX4_even : Cond.selects RX4 yX4_even yX4_even ∈ lw_tg := lw_tg_in (tb_3 (List.mem_of_getElem? (i := 185) rfl)) rfl
abbrev mX4_change : jv_M := (yX4_change, cX4_change, 2, some .int)
theorem okX4_change : jv_ok mX4_change 1 := ⟨lw_tg_in (tb_3 (List.mem_of_getElem? (i := 190) rfl)) rfl, lw_tg_in (tb_1 (List.mem_of_getElem? (i := 1) rfl)) rfl, ⟨by decide +kernel, by decide +kernel, by decide +kernel⟩, by decide +kernel, by decide⟩
theorem inX4_change : Cond.instanceMethod yX4_change ∈ lw_tg := lw_tg_in (tb_3 (List.mem_of_getElem? (i := 188) rfl)) rfl
theorem seX4_change : Cond.selects RX4 yX4_change yX4_change ∈ lw_tg := lw_tg_in (tb_3 (List.mem_of_getElem? (i := 189) rfl)) rfl
abbrev mX0_bestChange : jv_M := (yX0_bestChange, cX0_bestChange, 7, some .int)
theorem okX0_bestChange : jv_ok mX0_bestChange 1 := ⟨lw_tg_in (tb_3 (List.mem_of_getElem? (i := 194) rfl)) rfl, lw_tg_in (tb_1 (List.mem_of_getElem? (i := 3) rfl)) rfl, ⟨by decide +kernel, by decide +kernel, by decide +kernel⟩, by decide +kernel, by decide⟩
theorem inX0_bestChange : Cond.instanceMethod yX0_bestChange ∈ lw_tg := lw_tg_in (tb_3 (List.mem_of_getElem? (i := 192) rfl)) rfl
theorem seX0_bestChange : Cond.selects RX0 yX0_bestChange yX0_bestChange ∈ lw_tg := lw_tg_in (tb_3 (List.mem_of_getElem? (i := 193) rfl)) rfl
abbrev mX3_inReach : jv_M := (yX3_inReach, cX3_inReach, 4, some .boolean)
theorem okX3_inReach : jv_ok mX3_inReach 2 := ⟨lw_tg_in (tb_3 (List.mem_of_getElem? (i := 198) rfl)) rfl, lw_tg_in (tb_1 (List.mem_of_getElem? (i := 2) rfl)) rfl, ⟨by decide +kernel, by decide +kernel, by decide +kernel⟩, by decide +kernel, by decide⟩
theorem inX3_inReach : Cond.instanceMethod yX3_inReach ∈ lw_tg := lw_tg_in (tb_3 (List.mem_of_getElem? (i := 196) rfl)) rfl
theorem seX3_inReach : Cond.selects RX3 yX3_inReach yX3_inReach ∈ lw_tg := lw_tg_in (tb_3 (List.mem_of_getElem? (i := 197) rfl)) rfl
abbrev mJ9_abs_0f7a4 : jv_M := (yJ9_abs_0f7a4, cJ9_abs_0f7a4, 1, some .int)
theorem stJ9_abs_0f7a4 : Cond.static yJ9_abs_0f7a4 ∈ lw_tg := lw_tg_in (tb_3 (List.mem_of_getElem? (i := 200) rfl)) rfl
abbrev mX4_far : jv_M := (yX4_far, cX4_far, 4, some .int)
theorem okX4_far : jv_ok mX4_far 3 := ⟨lw_tg_in (tb_3 (List.mem_of_getElem? (i := 205) rfl)) rfl, lw_tg_in (tb_1 (List.mem_of_getElem? (i := 1) rfl)) rfl, ⟨by decide +kernel, by decide +kernel, by decide +kernel⟩, by decide +kernel, by decide⟩
theorem inX4_far : Cond.instanceMethod yX4_far ∈ lw_tg := lw_tg_in (tb_3 (List.mem_of_getElem? (i := 203) rfl)) rfl
theorem seX4_far : Cond.selects RX4 yX4_far yX4_far ∈ lw_tg := lw_tg_in (tb_3 (List.mem_of_getElem? (i := 204) rfl)) rfl
abbrev mX0_shortestMove : jv_M := (yX0_shortestMove, cX0_shortestMove, 6, some .int)
theorem okX0_shortestMove : jv_ok mX0_shortestMove 3 := ⟨lw_tg_in (tb_3 (List.mem_of_getElem? (i := 209) rfl)) rfl, lw_tg_in (tb_1 (List.mem_of_getElem? (i := 3) rfl)) rfl, ⟨by decide +kernel, by decide +kernel, by decide +kernel⟩, by decide +kernel, by decide⟩
theorem inX0_shortestMove : Cond.instanceMethod yX0_shortestMove ∈ lw_tg := lw_tg_in (tb_3 (List.mem_of_getElem? (i := 207) rfl)) rfl
theorem seX0_shortestMove : Cond.selects RX0 yX0_shortestMove yX0_shortestMove ∈ lw_tg := lw_tg_in (tb_3 (List.mem_of_getElem? (i := 208) rfl)) rfl
abbrev mX0_shortestMoveOf : jv_M := (yX0_shortestMoveOf, cX0_shortestMoveOf, 8, some .int)
theorem okX0_shortestMoveOf : jv_ok mX0_shortestMoveOf 3 := ⟨lw_tg_in (tb_3 (List.mem_of_getElem? (i := 213) rfl)) rfl, lw_tg_in (tb_1 (List.mem_of_getElem? (i := 3) rfl)) rfl, ⟨by decide +kernel, by decide +kernel, by decide +kernel⟩, by decide +kernel, by decide⟩
theorem inX0_shortestMoveOf : Cond.instanceMethod yX0_shortestMoveOf ∈ lw_tg := lw_tg_in (tb_3 (List.mem_of_getElem? (i := 212) rfl)) rfl
theorem seX0_shortestMoveOf : Cond.selects RX0 yX0_shortestMoveOf yX0_shortestMoveOf ∈ lw_tg := lw_tg_in (List.mem_of_getElem? (i := 22) (by decide +kernel)) rfl
abbrev mX3_sameSide : jv_M := (yX3_sameSide, cX3_sameSide, 4, some .boolean)
theorem okX3_sameSide : jv_ok mX3_sameSide 3 := ⟨lw_tg_in (tb_3 (List.mem_of_getElem? (i := 218) rfl)) rfl, lw_tg_in (tb_1 (List.mem_of_getElem? (i := 2) rfl)) rfl, ⟨by decide +kernel, by decide +kernel, by decide +kernel⟩, by decide +kernel, by decide⟩
theorem inX3_sameSide : Cond.instanceMethod yX3_sameSide ∈ lw_tg := lw_tg_in (tb_3 (List.mem_of_getElem? (i := 216) rfl)) rfl
theorem seX3_sameSide : Cond.selects RX3 yX3_sameSide yX3_sameSide ∈ lw_tg := lw_tg_in (tb_3 (List.mem_of_getElem? (i := 217) rfl)) rfl
abbrev mX4_most : jv_M := (yX4_most, cX4_most, 2, some .int)
theorem okX4_most : jv_ok mX4_most 1 := ⟨lw_tg_in (tb_3 (List.mem_of_getElem? (i := 224) rfl)) rfl, lw_tg_in (tb_1 (List.mem_of_getElem? (i := 1) rfl)) rfl, ⟨by decide +kernel, by decide +kernel, by decide +kernel⟩, by decide +kernel, by decide⟩
theorem inX4_most : Cond.instanceMethod yX4_most ∈ lw_tg := lw_tg_in (tb_3 (List.mem_of_getElem? (i := 222) rfl)) rfl
theorem seX4_most : Cond.selects RX4 yX4_most yX4_most ∈ lw_tg := lw_tg_in (tb_3 (List.mem_of_getElem? (i := 223) rfl)) rfl
abbrev mX0_greatestValue : jv_M := (yX0_greatestValue, cX0_greatestValue, 3, some .int)
theorem okX0_greatestValue : jv_ok mX0_greatestValue 1 := ⟨lw_tg_in (tb_3 (List.mem_of_getElem? (i := 228) rfl)) rfl, lw_tg_in (tb_1 (List.mem_of_getElem? (i := 3) rfl)) rfl, ⟨by decide +kernel, by decide +kernel, by decide +kernel⟩, by decide +kernel, by decide⟩
theorem inX0_greatestValue : Cond.instanceMethod yX0_greatestValue ∈ lw_tg := lw_tg_in (tb_3 (List.mem_of_getElem? (i := 226) rfl)) rfl
theorem seX0_greatestValue : Cond.selects RX0 yX0_greatestValue yX0_greatestValue ∈ lw_tg := lw_tg_in (tb_3 (List.mem_of_getElem? (i := 227) rfl)) rfl
abbrev mX0_greatestFrom : jv_M := (yX0_greatestFrom, cX0_greatestFrom, 4, some .int)
theorem okX0_greatestFrom : jv_ok mX0_greatestFrom 1 := ⟨lw_tg_in (tb_3 (List.mem_of_getElem? (i := 233) rfl)) rfl, lw_tg_in (tb_1 (List.mem_of_getElem? (i := 3) rfl)) rfl, ⟨by decide +kernel, by decide +kernel, by decide +kernel⟩, by decide +kernel, by decide⟩
theorem inX0_greatestFrom : Cond.instanceMethod yX0_greatestFrom ∈ lw_tg := lw_tg_in (tb_3 (List.mem_of_getElem? (i := 232) rfl)) rfl
theorem seX0_greatestFrom : Cond.selects RX0 yX0_greatestFrom yX0_greatestFrom ∈ lw_tg := lw_tg_in (List.mem_of_getElem? (i := 23) (by decide +kernel)) rfl
abbrev mX0_isLikeOneAhead : jv_M := (yX0_isLikeOneAhead, cX0_isLikeOneAhead, 3, some .boolean)
theorem okX0_isLikeOneAhead : jv_ok mX0_isLikeOneAhead 1 := ⟨lw_tg_in (tb_3 (List.mem_of_getElem? (i := 237) rfl)) rfl, lw_tg_in (tb_1 (List.mem_of_getElem? (i := 3) rfl)) rfl, ⟨by decide +kernel, by decide +kernel, by decide +kernel⟩, by decide +kernel, by decide⟩
theorem inX0_isLikeOneAhead : Cond.instanceMethod yX0_isLikeOneAhead ∈ lw_tg := lw_tg_in (tb_3 (List.mem_of_getElem? (i := 236) rfl)) rfl
theorem seX0_isLikeOneAhead : Cond.selects RX0 yX0_isLikeOneAhead yX0_isLikeOneAhead ∈ lw_tg := lw_tg_in (List.mem_of_getElem? (i := 24) (by decide +kernel)) rfl
abbrev mX4_always : jv_M := (yX4_always, cX4_always, 4, some .int)
theorem okX4_always : jv_ok mX4_always 1 := ⟨lw_tg_in (tb_4 (List.mem_of_getElem? (i := 1) rfl)) rfl, lw_tg_in (tb_1 (List.mem_of_getElem? (i := 1) rfl)) rfl, ⟨by decide +kernel, by decide +kernel, by decide +kernel⟩, by decide +kernel, by decide⟩
theorem inX4_always : Cond.instanceMethod yX4_always ∈ lw_tg := lw_tg_in (tb_3 (List.mem_of_getElem? (i := 239) rfl)) rfl
theorem seX4_always : Cond.selects RX4 yX4_always yX4_always ∈ lw_tg := lw_tg_in (tb_4 (List.mem_of_getElem? (i := 0) rfl)) rfl
abbrev mX3_timesTogether : jv_M := (yX3_timesTogether, cX3_timesTogether, 5, some .int)
theorem okX3_timesTogether : jv_ok mX3_timesTogether 2 := ⟨lw_tg_in (tb_4 (List.mem_of_getElem? (i := 5) rfl)) rfl, lw_tg_in (tb_1 (List.mem_of_getElem? (i := 2) rfl)) rfl, ⟨by decide +kernel, by decide +kernel, by decide +kernel⟩, by decide +kernel, by decide⟩
theorem inX3_timesTogether : Cond.instanceMethod yX3_timesTogether ∈ lw_tg := lw_tg_in (tb_4 (List.mem_of_getElem? (i := 3) rfl)) rfl
theorem seX3_timesTogether : Cond.selects RX3 yX3_timesTogether yX3_timesTogether ∈ lw_tg := lw_tg_in (tb_4 (List.mem_of_getElem? (i := 4) rfl)) rfl
abbrev mX4_often : jv_M := (yX4_often, cX4_often, 3, some .int)
theorem okX4_often : jv_ok mX4_often 2 := ⟨lw_tg_in (tb_4 (List.mem_of_getElem? (i := 10) rfl)) rfl, lw_tg_in (tb_1 (List.mem_of_getElem? (i := 1) rfl)) rfl, ⟨by decide +kernel, by decide +kernel, by decide +kernel⟩, by decide +kernel, by decide⟩
theorem inX4_often : Cond.instanceMethod yX4_often ∈ lw_tg := lw_tg_in (tb_4 (List.mem_of_getElem? (i := 8) rfl)) rfl
theorem seX4_often : Cond.selects RX4 yX4_often yX4_often ∈ lw_tg := lw_tg_in (tb_4 (List.mem_of_getElem? (i := 9) rfl)) rfl
abbrev mX4_safe : jv_M := (yX4_safe, cX4_safe, 3, some .int)
theorem okX4_safe : jv_ok mX4_safe 2 := ⟨lw_tg_in (tb_4 (List.mem_of_getElem? (i := 14) rfl)) rfl, lw_tg_in (tb_1 (List.mem_of_getElem? (i := 1) rfl)) rfl, ⟨by decide +kernel, by decide +kernel, by decide +kernel⟩, by decide +kernel, by decide⟩
theorem inX4_safe : Cond.instanceMethod yX4_safe ∈ lw_tg := lw_tg_in (tb_4 (List.mem_of_getElem? (i := 12) rfl)) rfl
theorem seX4_safe : Cond.selects RX4 yX4_safe yX4_safe ∈ lw_tg := lw_tg_in (tb_4 (List.mem_of_getElem? (i := 13) rfl)) rfl
abbrev mX0_safestPlace : jv_M := (yX0_safestPlace, cX0_safestPlace, 8, some .int)
theorem okX0_safestPlace : jv_ok mX0_safestPlace 2 := ⟨lw_tg_in (tb_4 (List.mem_of_getElem? (i := 18) rfl)) rfl, lw_tg_in (tb_1 (List.mem_of_getElem? (i := 3) rfl)) rfl, ⟨by decide +kernel, by decide +kernel, by decide +kernel⟩, by decide +kernel, by decide⟩
theorem inX0_safestPlace : Cond.instanceMethod yX0_safestPlace ∈ lw_tg := lw_tg_in (tb_4 (List.mem_of_getElem? (i := 16) rfl)) rfl
theorem seX0_safestPlace : Cond.selects RX0 yX0_safestPlace yX0_safestPlace ∈ lw_tg := lw_tg_in (tb_4 (List.mem_of_getElem? (i := 17) rfl)) rfl
abbrev mX4_out : jv_M := (yX4_out, cX4_out, 3, some .int)
theorem okX4_out : jv_ok mX4_out 2 := ⟨lw_tg_in (tb_4 (List.mem_of_getElem? (i := 23) rfl)) rfl, lw_tg_in (tb_1 (List.mem_of_getElem? (i := 1) rfl)) rfl, ⟨by decide +kernel, by decide +kernel, by decide +kernel⟩, by decide +kernel, by decide⟩
theorem inX4_out : Cond.instanceMethod yX4_out ∈ lw_tg := lw_tg_in (tb_4 (List.mem_of_getElem? (i := 21) rfl)) rfl
theorem seX4_out : Cond.selects RX4 yX4_out yX4_out ∈ lw_tg := lw_tg_in (tb_4 (List.mem_of_getElem? (i := 22) rfl)) rfl
abbrev mX0_countOut : jv_M := (yX0_countOut, cX0_countOut, 5, none)
theorem okX0_countOut : jv_ok mX0_countOut 1 := ⟨lw_tg_in (tb_4 (List.mem_of_getElem? (i := 27) rfl)) rfl, lw_tg_in (tb_1 (List.mem_of_getElem? (i := 3) rfl)) rfl, ⟨by decide +kernel, by decide +kernel, by decide +kernel⟩, by decide +kernel, by decide⟩
theorem inX0_countOut : Cond.instanceMethod yX0_countOut ∈ lw_tg := lw_tg_in (tb_4 (List.mem_of_getElem? (i := 25) rfl)) rfl
theorem seX0_countOut : Cond.selects RX0 yX0_countOut yX0_countOut ∈ lw_tg := lw_tg_in (tb_4 (List.mem_of_getElem? (i := 26) rfl)) rfl
abbrev mX4_outAt : jv_M := (yX4_outAt, cX4_outAt, 4, some .int)
theorem okX4_outAt : jv_ok mX4_outAt 2 := ⟨lw_tg_in (tb_4 (List.mem_of_getElem? (i := 32) rfl)) rfl, lw_tg_in (tb_1 (List.mem_of_getElem? (i := 1) rfl)) rfl, ⟨by decide +kernel, by decide +kernel, by decide +kernel⟩, by decide +kernel, by decide⟩
theorem inX4_outAt : Cond.instanceMethod yX4_outAt ∈ lw_tg := lw_tg_in (tb_4 (List.mem_of_getElem? (i := 30) rfl)) rfl
theorem seX4_outAt : Cond.selects RX4 yX4_outAt yX4_outAt ∈ lw_tg := lw_tg_in (tb_4 (List.mem_of_getElem? (i := 31) rfl)) rfl
abbrev mX4_stays : jv_M := (yX4_stays, cX4_stays, 3, some .int)
theorem okX4_stays : jv_ok mX4_stays 1 := ⟨lw_tg_in (tb_4 (List.mem_of_getElem? (i := 36) rfl)) rfl, lw_tg_in (tb_1 (List.mem_of_getElem? (i := 1) rfl)) rfl, ⟨by decide +kernel, by decide +kernel, by decide +kernel⟩, by decide +kernel, by decide⟩
theorem inX4_stays : Cond.instanceMethod yX4_stays ∈ lw_tg := lw_tg_in (tb_4 (List.mem_of_getElem? (i := 34) rfl)) rfl
theorem seX4_stays : Cond.selects RX4 yX4_stays yX4_stays ∈ lw_tg := lw_tg_in (tb_4 (List.mem_of_getElem? (i := 35) rfl)) rfl
abbrev mX4_fits : jv_M := (yX4_fits, cX4_fits, 5, some .int)
theorem okX4_fits : jv_ok mX4_fits 1 := ⟨lw_tg_in (tb_4 (List.mem_of_getElem? (i := 40) rfl)) rfl, lw_tg_in (tb_1 (List.mem_of_getElem? (i := 1) rfl)) rfl, ⟨by decide +kernel, by decide +kernel, by decide +kernel⟩, by decide +kernel, by decide⟩
theorem inX4_fits : Cond.instanceMethod yX4_fits ∈ lw_tg := lw_tg_in (tb_4 (List.mem_of_getElem? (i := 38) rfl)) rfl
theorem seX4_fits : Cond.selects RX4 yX4_fits yX4_fits ∈ lw_tg := lw_tg_in (tb_4 (List.mem_of_getElem? (i := 39) rfl)) rfl
abbrev mX4_toldTrouble : jv_M := (yX4_toldTrouble, cX4_toldTrouble, 4, some .int)
theorem okX4_toldTrouble : jv_ok mX4_toldTrouble 2 := ⟨lw_tg_in (tb_4 (List.mem_of_getElem? (i := 44) rfl)) rfl, lw_tg_in (tb_1 (List.mem_of_getElem? (i := 1) rfl)) rfl, ⟨by decide +kernel, by decide +kernel, by decide +kernel⟩, by decide +kernel, by decide⟩
theorem inX4_toldTrouble : Cond.instanceMethod yX4_toldTrouble ∈ lw_tg := lw_tg_in (tb_4 (List.mem_of_getElem? (i := 43) rfl)) rfl
theorem seX4_toldTrouble : Cond.selects RX4 yX4_toldTrouble yX4_toldTrouble ∈ lw_tg := lw_tg_in (List.mem_of_getElem? (i := 25) (by decide +kernel)) rfl
abbrev mX3_unlikeTold : jv_M := (yX3_unlikeTold, cX3_unlikeTold, 5, some .int)
theorem okX3_unlikeTold : jv_ok mX3_unlikeTold 2 := ⟨lw_tg_in (tb_4 (List.mem_of_getElem? (i := 48) rfl)) rfl, lw_tg_in (tb_1 (List.mem_of_getElem? (i := 2) rfl)) rfl, ⟨by decide +kernel, by decide +kernel, by decide +kernel⟩, by decide +kernel, by decide⟩
theorem inX3_unlikeTold : Cond.instanceMethod yX3_unlikeTold ∈ lw_tg := lw_tg_in (tb_4 (List.mem_of_getElem? (i := 46) rfl)) rfl
theorem seX3_unlikeTold : Cond.selects RX3 yX3_unlikeTold yX3_unlikeTold ∈ lw_tg := lw_tg_in (tb_4 (List.mem_of_getElem? (i := 47) rfl)) rfl
abbrev mX4_moved : jv_M := (yX4_moved, cX4_moved, 4, some .int)
theorem okX4_moved : jv_ok mX4_moved 2 := ⟨lw_tg_in (tb_4 (List.mem_of_getElem? (i := 52) rfl)) rfl, lw_tg_in (tb_1 (List.mem_of_getElem? (i := 1) rfl)) rfl, ⟨by decide +kernel, by decide +kernel, by decide +kernel⟩, by decide +kernel, by decide⟩
theorem inX4_moved : Cond.instanceMethod yX4_moved ∈ lw_tg := lw_tg_in (tb_4 (List.mem_of_getElem? (i := 50) rfl)) rfl
theorem seX4_moved : Cond.selects RX4 yX4_moved yX4_moved ∈ lw_tg := lw_tg_in (tb_4 (List.mem_of_getElem? (i := 51) rfl)) rfl
abbrev mX0_firstChangeToFit : jv_M := (yX0_firstChangeToFit, cX0_firstChangeToFit, 6, some .int)
theorem okX0_firstChangeToFit : jv_ok mX0_firstChangeToFit 2 := ⟨lw_tg_in (tb_4 (List.mem_of_getElem? (i := 56) rfl)) rfl, lw_tg_in (tb_1 (List.mem_of_getElem? (i := 3) rfl)) rfl, ⟨by decide +kernel, by decide +kernel, by decide +kernel⟩, by decide +kernel, by decide⟩
theorem inX0_firstChangeToFit : Cond.instanceMethod yX0_firstChangeToFit ∈ lw_tg := lw_tg_in (tb_4 (List.mem_of_getElem? (i := 54) rfl)) rfl
theorem seX0_firstChangeToFit : Cond.selects RX0 yX0_firstChangeToFit yX0_firstChangeToFit ∈ lw_tg := lw_tg_in (tb_4 (List.mem_of_getElem? (i := 55) rfl)) rfl
abbrev mX4_miscounted : jv_M := (yX4_miscounted, cX4_miscounted, 5, some .int)
theorem okX4_miscounted : jv_ok mX4_miscounted 1 := ⟨lw_tg_in (tb_4 (List.mem_of_getElem? (i := 62) rfl)) rfl, lw_tg_in (tb_1 (List.mem_of_getElem? (i := 1) rfl)) rfl, ⟨by decide +kernel, by decide +kernel, by decide +kernel⟩, by decide +kernel, by decide⟩
theorem inX4_miscounted : Cond.instanceMethod yX4_miscounted ∈ lw_tg := lw_tg_in (tb_4 (List.mem_of_getElem? (i := 60) rfl)) rfl
theorem seX4_miscounted : Cond.selects RX4 yX4_miscounted yX4_miscounted ∈ lw_tg := lw_tg_in (tb_4 (List.mem_of_getElem? (i := 61) rfl)) rfl
abbrev mX4_judge : jv_M := (yX4_judge, cX4_judge, 4, some .int)
theorem okX4_judge : jv_ok mX4_judge 2 := ⟨lw_tg_in (tb_4 (List.mem_of_getElem? (i := 67) rfl)) rfl, lw_tg_in (tb_1 (List.mem_of_getElem? (i := 1) rfl)) rfl, ⟨by decide +kernel, by decide +kernel, by decide +kernel⟩, by decide +kernel, by decide⟩
theorem inX4_judge : Cond.instanceMethod yX4_judge ∈ lw_tg := lw_tg_in (tb_4 (List.mem_of_getElem? (i := 65) rfl)) rfl
theorem seX4_judge : Cond.selects RX4 yX4_judge yX4_judge ∈ lw_tg := lw_tg_in (tb_4 (List.mem_of_getElem? (i := 66) rfl)) rfl
abbrev mX4_firstWrong : jv_M := (yX4_firstWrong, cX4_firstWrong, 4, some .int)
theorem okX4_firstWrong : jv_ok mX4_firstWrong 2 := ⟨lw_tg_in (tb_4 (List.mem_of_getElem? (i := 71) rfl)) rfl, lw_tg_in (tb_1 (List.mem_of_getElem? (i := 1) rfl)) rfl, ⟨by decide +kernel, by decide +kernel, by decide +kernel⟩, by decide +kernel, by decide⟩
theorem inX4_firstWrong : Cond.instanceMethod yX4_firstWrong ∈ lw_tg := lw_tg_in (tb_4 (List.mem_of_getElem? (i := 70) rfl)) rfl
theorem seX4_firstWrong : Cond.selects RX4 yX4_firstWrong yX4_firstWrong ∈ lw_tg := lw_tg_in (List.mem_of_getElem? (i := 26) (by decide +kernel)) rfl
abbrev mX3_changeAsTold : jv_M := (yX3_changeAsTold, cX3_changeAsTold, 5, some .boolean)
theorem okX3_changeAsTold : jv_ok mX3_changeAsTold 1 := ⟨lw_tg_in (tb_4 (List.mem_of_getElem? (i := 75) rfl)) rfl, lw_tg_in (tb_1 (List.mem_of_getElem? (i := 2) rfl)) rfl, ⟨by decide +kernel, by decide +kernel, by decide +kernel⟩, by decide +kernel, by decide⟩
theorem inX3_changeAsTold : Cond.instanceMethod yX3_changeAsTold ∈ lw_tg := lw_tg_in (tb_4 (List.mem_of_getElem? (i := 73) rfl)) rfl
theorem seX3_changeAsTold : Cond.selects RX3 yX3_changeAsTold yX3_changeAsTold ∈ lw_tg := lw_tg_in (tb_4 (List.mem_of_getElem? (i := 74) rfl)) rfl
abbrev mX4_behind : jv_M := (yX4_behind, cX4_behind, 5, some .int)
theorem okX4_behind : jv_ok mX4_behind 3 := ⟨lw_tg_in (tb_4 (List.mem_of_getElem? (i := 82) rfl)) rfl, lw_tg_in (tb_1 (List.mem_of_getElem? (i := 1) rfl)) rfl, ⟨by decide +kernel, by decide +kernel, by decide +kernel⟩, by decide +kernel, by decide⟩
theorem inX4_behind : Cond.instanceMethod yX4_behind ∈ lw_tg := lw_tg_in (tb_4 (List.mem_of_getElem? (i := 80) rfl)) rfl
theorem seX4_behind : Cond.selects RX4 yX4_behind yX4_behind ∈ lw_tg := lw_tg_in (tb_4 (List.mem_of_getElem? (i := 81) rfl)) rfl
abbrev mX4_done : jv_M := (yX4_done, cX4_done, 4, some .int)
theorem okX4_done : jv_ok mX4_done 2 := ⟨lw_tg_in (tb_4 (List.mem_of_getElem? (i := 86) rfl)) rfl, lw_tg_in (tb_1 (List.mem_of_getElem? (i := 1) rfl)) rfl, ⟨by decide +kernel, by decide +kernel, by decide +kernel⟩, by decide +kernel, by decide⟩
theorem inX4_done : Cond.instanceMethod yX4_done ∈ lw_tg := lw_tg_in (tb_4 (List.mem_of_getElem? (i := 84) rfl)) rfl
theorem seX4_done : Cond.selects RX4 yX4_done yX4_done ∈ lw_tg := lw_tg_in (tb_4 (List.mem_of_getElem? (i := 85) rfl)) rfl
abbrev mX4_swap : jv_M := (yX4_swap, cX4_swap, 3, some .int)
theorem okX4_swap : jv_ok mX4_swap 2 := ⟨lw_tg_in (tb_4 (List.mem_of_getElem? (i := 90) rfl)) rfl, lw_tg_in (tb_1 (List.mem_of_getElem? (i := 1) rfl)) rfl, ⟨by decide +kernel, by decide +kernel, by decide +kernel⟩, by decide +kernel, by decide⟩
theorem inX4_swap : Cond.instanceMethod yX4_swap ∈ lw_tg := lw_tg_in (tb_4 (List.mem_of_getElem? (i := 88) rfl)) rfl
theorem seX4_swap : Cond.selects RX4 yX4_swap yX4_swap ∈ lw_tg := lw_tg_in (tb_4 (List.mem_of_getElem? (i := 89) rfl)) rfl
abbrev mX4_move : jv_M := (yX4_move, cX4_move, 4, some .int)
theorem okX4_move : jv_ok mX4_move 2 := ⟨lw_tg_in (tb_4 (List.mem_of_getElem? (i := 96) rfl)) rfl, lw_tg_in (tb_1 (List.mem_of_getElem? (i := 1) rfl)) rfl, ⟨by decide +kernel, by decide +kernel, by decide +kernel⟩, by decide +kernel, by decide⟩
theorem inX4_move : Cond.instanceMethod yX4_move ∈ lw_tg := lw_tg_in (tb_4 (List.mem_of_getElem? (i := 94) rfl)) rfl
theorem seX4_move : Cond.selects RX4 yX4_move yX4_move ∈ lw_tg := lw_tg_in (tb_4 (List.mem_of_getElem? (i := 95) rfl)) rfl
abbrev mX4_turn : jv_M := (yX4_turn, cX4_turn, 1, some .int)
theorem okX4_turn : jv_ok mX4_turn 0 := ⟨lw_tg_in (tb_4 (List.mem_of_getElem? (i := 101) rfl)) rfl, lw_tg_in (tb_1 (List.mem_of_getElem? (i := 1) rfl)) rfl, ⟨by decide +kernel, by decide +kernel, by decide +kernel⟩, by decide +kernel, by decide⟩
theorem inX4_turn : Cond.instanceMethod yX4_turn ∈ lw_tg := lw_tg_in (tb_4 (List.mem_of_getElem? (i := 99) rfl)) rfl
theorem seX4_turn : Cond.selects RX4 yX4_turn yX4_turn ∈ lw_tg := lw_tg_in (tb_4 (List.mem_of_getElem? (i := 100) rfl)) rfl
abbrev mX4_leaves : jv_M := (yX4_leaves, cX4_leaves, 1, some .int)
theorem okX4_leaves : jv_ok mX4_leaves 0 := ⟨lw_tg_in (tb_4 (List.mem_of_getElem? (i := 105) rfl)) rfl, lw_tg_in (tb_1 (List.mem_of_getElem? (i := 1) rfl)) rfl, ⟨by decide +kernel, by decide +kernel, by decide +kernel⟩, by decide +kernel, by decide⟩
theorem inX4_leaves : Cond.instanceMethod yX4_leaves ∈ lw_tg := lw_tg_in (tb_4 (List.mem_of_getElem? (i := 103) rfl)) rfl
theorem seX4_leaves : Cond.selects RX4 yX4_leaves yX4_leaves ∈ lw_tg := lw_tg_in (tb_4 (List.mem_of_getElem? (i := 104) rfl)) rfl
abbrev mX3_dropLast : jv_M := (yX3_dropLast, cX3_dropLast, 4, none)
theorem okX3_dropLast : jv_ok mX3_dropLast 0 := ⟨lw_tg_in (tb_4 (List.mem_of_getElem? (i := 109) rfl)) rfl, lw_tg_in (tb_1 (List.mem_of_getElem? (i := 2) rfl)) rfl, ⟨by decide +kernel, by decide +kernel, by decide +kernel⟩, by decide +kernel, by decide⟩
theorem inX3_dropLast : Cond.instanceMethod yX3_dropLast ∈ lw_tg := lw_tg_in (tb_4 (List.mem_of_getElem? (i := 107) rfl)) rfl
theorem seX3_dropLast : Cond.selects RX3 yX3_dropLast yX3_dropLast ∈ lw_tg := lw_tg_in (tb_4 (List.mem_of_getElem? (i := 108) rfl)) rfl
abbrev mX4_term : jv_M := (yX4_term, cX4_term, 6, some .int)
theorem okX4_term : jv_ok mX4_term 1 := ⟨lw_tg_in (tb_4 (List.mem_of_getElem? (i := 114) rfl)) rfl, lw_tg_in (tb_1 (List.mem_of_getElem? (i := 1) rfl)) rfl, ⟨by decide +kernel, by decide +kernel, by decide +kernel⟩, by decide +kernel, by decide⟩
theorem inX4_term : Cond.instanceMethod yX4_term ∈ lw_tg := lw_tg_in (tb_4 (List.mem_of_getElem? (i := 112) rfl)) rfl
theorem seX4_term : Cond.selects RX4 yX4_term yX4_term ∈ lw_tg := lw_tg_in (tb_4 (List.mem_of_getElem? (i := 113) rfl)) rfl
abbrev mX3_draw : jv_M := (yX3_draw, cX3_draw, 2, some .int)
theorem okX3_draw : jv_ok mX3_draw 1 := ⟨lw_tg_in (tb_4 (List.mem_of_getElem? (i := 118) rfl)) rfl, lw_tg_in (tb_1 (List.mem_of_getElem? (i := 2) rfl)) rfl, ⟨by decide +kernel, by decide +kernel, by decide +kernel⟩, by decide +kernel, by decide⟩
theorem inX3_draw : Cond.instanceMethod yX3_draw ∈ lw_tg := lw_tg_in (tb_4 (List.mem_of_getElem? (i := 116) rfl)) rfl
theorem seX3_draw : Cond.selects RX3 yX3_draw yX3_draw ∈ lw_tg := lw_tg_in (tb_4 (List.mem_of_getElem? (i := 117) rfl)) rfl
abbrev mX4_seed : jv_M := (yX4_seed, cX4_seed, 3, some .int)
theorem okX4_seed : jv_ok mX4_seed 1 := ⟨lw_tg_in (tb_4 (List.mem_of_getElem? (i := 123) rfl)) rfl, lw_tg_in (tb_1 (List.mem_of_getElem? (i := 1) rfl)) rfl, ⟨by decide +kernel, by decide +kernel, by decide +kernel⟩, by decide +kernel, by decide⟩
theorem inX4_seed : Cond.instanceMethod yX4_seed ∈ lw_tg := lw_tg_in (tb_4 (List.mem_of_getElem? (i := 121) rfl)) rfl
theorem seX4_seed : Cond.selects RX4 yX4_seed yX4_seed ∈ lw_tg := lw_tg_in (tb_4 (List.mem_of_getElem? (i := 122) rfl)) rfl
abbrev mX4_image : jv_M := (yX4_image, cX4_image, 1, some .int)
theorem okX4_image : jv_ok mX4_image 0 := ⟨lw_tg_in (tb_4 (List.mem_of_getElem? (i := 127) rfl)) rfl, lw_tg_in (tb_1 (List.mem_of_getElem? (i := 1) rfl)) rfl, ⟨by decide +kernel, by decide +kernel, by decide +kernel⟩, by decide +kernel, by decide⟩
theorem inX4_image : Cond.instanceMethod yX4_image ∈ lw_tg := lw_tg_in (tb_4 (List.mem_of_getElem? (i := 125) rfl)) rfl
theorem seX4_image : Cond.selects RX4 yX4_image yX4_image ∈ lw_tg := lw_tg_in (tb_4 (List.mem_of_getElem? (i := 126) rfl)) rfl
abbrev mX4_back : jv_M := (yX4_back, cX4_back, 2, some .int)
theorem okX4_back : jv_ok mX4_back 0 := ⟨lw_tg_in (tb_4 (List.mem_of_getElem? (i := 131) rfl)) rfl, lw_tg_in (tb_1 (List.mem_of_getElem? (i := 1) rfl)) rfl, ⟨by decide +kernel, by decide +kernel, by decide +kernel⟩, by decide +kernel, by decide⟩
theorem inX4_back : Cond.instanceMethod yX4_back ∈ lw_tg := lw_tg_in (tb_4 (List.mem_of_getElem? (i := 129) rfl)) rfl
theorem seX4_back : Cond.selects RX4 yX4_back yX4_back ∈ lw_tg := lw_tg_in (tb_4 (List.mem_of_getElem? (i := 130) rfl)) rfl
abbrev mX4_status : jv_M := (yX4_status, cX4_status, 2, some .int)
theorem okX4_status : jv_ok mX4_status 1 := ⟨lw_tg_in (tb_4 (List.mem_of_getElem? (i := 135) rfl)) rfl, lw_tg_in (tb_1 (List.mem_of_getElem? (i := 1) rfl)) rfl, ⟨by decide +kernel, by decide +kernel, by decide +kernel⟩, by decide +kernel, by decide⟩
theorem inX4_status : Cond.instanceMethod yX4_status ∈ lw_tg := lw_tg_in (tb_4 (List.mem_of_getElem? (i := 133) rfl)) rfl
theorem seX4_status : Cond.selects RX4 yX4_status yX4_status ∈ lw_tg := lw_tg_in (tb_4 (List.mem_of_getElem? (i := 134) rfl)) rfl
abbrev mX3_allStrong : jv_M := (yX3_allStrong, cX3_allStrong, 3, some .int)
theorem okX3_allStrong : jv_ok mX3_allStrong 0 := ⟨lw_tg_in (tb_4 (List.mem_of_getElem? (i := 140) rfl)) rfl, lw_tg_in (tb_1 (List.mem_of_getElem? (i := 2) rfl)) rfl, ⟨by decide +kernel, by decide +kernel, by decide +kernel⟩, by decide +kernel, by decide⟩
theorem inX3_allStrong : Cond.instanceMethod yX3_allStrong ∈ lw_tg := lw_tg_in (tb_4 (List.mem_of_getElem? (i := 138) rfl)) rfl
theorem seX3_allStrong : Cond.selects RX3 yX3_allStrong yX3_allStrong ∈ lw_tg := lw_tg_in (tb_4 (List.mem_of_getElem? (i := 139) rfl)) rfl
abbrev mX4_shelvesInUse : jv_M := (yX4_shelvesInUse, cX4_shelvesInUse, 3, some .int)
theorem okX4_shelvesInUse : jv_ok mX4_shelvesInUse 0 := ⟨lw_tg_in (tb_4 (List.mem_of_getElem? (i := 144) rfl)) rfl, lw_tg_in (tb_1 (List.mem_of_getElem? (i := 1) rfl)) rfl, ⟨by decide +kernel, by decide +kernel, by decide +kernel⟩, by decide +kernel, by decide⟩
theorem inX4_shelvesInUse : Cond.instanceMethod yX4_shelvesInUse ∈ lw_tg := lw_tg_in (tb_4 (List.mem_of_getElem? (i := 143) rfl)) rfl
theorem seX4_shelvesInUse : Cond.selects RX4 yX4_shelvesInUse yX4_shelvesInUse ∈ lw_tg := lw_tg_in (List.mem_of_getElem? (i := 27) (by decide +kernel)) rfl
abbrev mX5_init : jv_M := (yX5_init, cX5_init, 1, none)
theorem okX5_init : jv_ok mX5_init 0 := ⟨lw_tg_in (tb_4 (List.mem_of_getElem? (i := 149) rfl)) rfl, lw_tg_in (tb_1 (List.mem_of_getElem? (i := 6) rfl)) rfl, ⟨by decide +kernel, by decide +kernel, by decide +kernel⟩, by decide +kernel, by decide⟩
theorem inX5_init : Cond.instanceMethod yX5_init ∈ lw_tg := lw_tg_in (tb_4 (List.mem_of_getElem? (i := 148) rfl)) rfl
abbrev mX5_row : jv_M := (yX5_row, cX5_row, 5, some .int)
theorem okX5_row : jv_ok mX5_row 3 := ⟨lw_tg_in (tb_5 (List.mem_of_getElem? (i := 22) rfl)) rfl, lw_tg_in (tb_1 (List.mem_of_getElem? (i := 6) rfl)) rfl, ⟨by decide +kernel, by decide +kernel, by decide +kernel⟩, by decide +kernel, by decide⟩
theorem inX5_row : Cond.instanceMethod yX5_row ∈ lw_tg := lw_tg_in (tb_5 (List.mem_of_getElem? (i := 20) rfl)) rfl
theorem seX5_row : Cond.selects RX5 yX5_row yX5_row ∈ lw_tg := lw_tg_in (tb_5 (List.mem_of_getElem? (i := 21) rfl)) rfl
abbrev mX5_in : jv_M := (yX5_in, cX5_in, 6, some .boolean)
theorem okX5_in : jv_ok mX5_in 3 := ⟨lw_tg_in (tb_5 (List.mem_of_getElem? (i := 26) rfl)) rfl, lw_tg_in (tb_1 (List.mem_of_getElem? (i := 6) rfl)) rfl, ⟨by decide +kernel, by decide +kernel, by decide +kernel⟩, by decide +kernel, by decide⟩
theorem stX5_in : Cond.static yX5_in ∈ lw_tg := lw_tg_in (tb_5 (List.mem_of_getElem? (i := 25) rfl)) rfl
abbrev mX5_refuse : jv_M := (yX5_refuse, cX5_refuse, 2, some .int)
theorem okX5_refuse : jv_ok mX5_refuse 1 := ⟨lw_tg_in (tb_5 (List.mem_of_getElem? (i := 32) rfl)) rfl, lw_tg_in (tb_1 (List.mem_of_getElem? (i := 6) rfl)) rfl, ⟨by decide +kernel, by decide +kernel, by decide +kernel⟩, by decide +kernel, by decide⟩
theorem inX5_refuse : Cond.instanceMethod yX5_refuse ∈ lw_tg := lw_tg_in (tb_5 (List.mem_of_getElem? (i := 31) rfl)) rfl
theorem seX5_refuse : Cond.selects RX5 yX5_refuse yX5_refuse ∈ lw_tg := lw_tg_in (List.mem_of_getElem? (i := 28) (by decide +kernel)) rfl
abbrev mX5_set : jv_M := (yX5_set, cX5_set, 6, some .int)
theorem okX5_set : jv_ok mX5_set 3 := ⟨lw_tg_in (tb_5 (List.mem_of_getElem? (i := 36) rfl)) rfl, lw_tg_in (tb_1 (List.mem_of_getElem? (i := 6) rfl)) rfl, ⟨by decide +kernel, by decide +kernel, by decide +kernel⟩, by decide +kernel, by decide⟩
theorem inX5_set : Cond.instanceMethod yX5_set ∈ lw_tg := lw_tg_in (tb_5 (List.mem_of_getElem? (i := 34) rfl)) rfl
theorem seX5_set : Cond.selects RX5 yX5_set yX5_set ∈ lw_tg := lw_tg_in (tb_5 (List.mem_of_getElem? (i := 35) rfl)) rfl
abbrev mX5_noRow : jv_M := (yX5_noRow, cX5_noRow, 2, some .int)
theorem okX5_noRow : jv_ok mX5_noRow 1 := ⟨lw_tg_in (tb_5 (List.mem_of_getElem? (i := 40) rfl)) rfl, lw_tg_in (tb_1 (List.mem_of_getElem? (i := 6) rfl)) rfl, ⟨by decide +kernel, by decide +kernel, by decide +kernel⟩, by decide +kernel, by decide⟩
theorem inX5_noRow : Cond.instanceMethod yX5_noRow ∈ lw_tg := lw_tg_in (tb_5 (List.mem_of_getElem? (i := 39) rfl)) rfl
theorem seX5_noRow : Cond.selects RX5 yX5_noRow yX5_noRow ∈ lw_tg := lw_tg_in (List.mem_of_getElem? (i := 29) (by decide +kernel)) rfl
abbrev mX5_fit : jv_M := (yX5_fit, cX5_fit, 3, some .long)
theorem okX5_fit : jv_ok mX5_fit 2 := ⟨lw_tg_in (tb_5 (List.mem_of_getElem? (i := 43) rfl)) rfl, lw_tg_in (tb_1 (List.mem_of_getElem? (i := 6) rfl)) rfl, ⟨by decide +kernel, by decide +kernel, by decide +kernel⟩, by decide +kernel, by decide⟩
theorem stX5_fit : Cond.static yX5_fit ∈ lw_tg := lw_tg_in (tb_5 (List.mem_of_getElem? (i := 42) rfl)) rfl
abbrev mX5_copy : jv_M := (yX5_copy, cX5_copy, 7, some .int)
theorem okX5_copy : jv_ok mX5_copy 5 := ⟨lw_tg_in (tb_5 (List.mem_of_getElem? (i := 47) rfl)) rfl, lw_tg_in (tb_1 (List.mem_of_getElem? (i := 6) rfl)) rfl, ⟨by decide +kernel, by decide +kernel, by decide +kernel⟩, by decide +kernel, by decide⟩
theorem inX5_copy : Cond.instanceMethod yX5_copy ∈ lw_tg := lw_tg_in (tb_5 (List.mem_of_getElem? (i := 45) rfl)) rfl
theorem seX5_copy : Cond.selects RX5 yX5_copy yX5_copy ∈ lw_tg := lw_tg_in (tb_5 (List.mem_of_getElem? (i := 46) rfl)) rfl
abbrev mX5_element : jv_M := (yX5_element, cX5_element, 3, some .long)
theorem okX5_element : jv_ok mX5_element 2 := ⟨lw_tg_in (tb_5 (List.mem_of_getElem? (i := 51) rfl)) rfl, lw_tg_in (tb_1 (List.mem_of_getElem? (i := 6) rfl)) rfl, ⟨by decide +kernel, by decide +kernel, by decide +kernel⟩, by decide +kernel, by decide⟩
theorem inX5_element : Cond.instanceMethod yX5_element ∈ lw_tg := lw_tg_in (tb_5 (List.mem_of_getElem? (i := 49) rfl)) rfl
theorem seX5_element : Cond.selects RX5 yX5_element yX5_element ∈ lw_tg := lw_tg_in (tb_5 (List.mem_of_getElem? (i := 50) rfl)) rfl
abbrev mX5_holds : jv_M := (yX5_holds, cX5_holds, 2, some .int)
theorem okX5_holds : jv_ok mX5_holds 1 := ⟨lw_tg_in (tb_5 (List.mem_of_getElem? (i := 55) rfl)) rfl, lw_tg_in (tb_1 (List.mem_of_getElem? (i := 6) rfl)) rfl, ⟨by decide +kernel, by decide +kernel, by decide +kernel⟩, by decide +kernel, by decide⟩
theorem inX5_holds : Cond.instanceMethod yX5_holds ∈ lw_tg := lw_tg_in (tb_5 (List.mem_of_getElem? (i := 53) rfl)) rfl
theorem seX5_holds : Cond.selects RX5 yX5_holds yX5_holds ∈ lw_tg := lw_tg_in (tb_5 (List.mem_of_getElem? (i := 54) rfl)) rfl
abbrev mX5_show : jv_M := (yX5_show, cX5_show, 3, some .int)
theorem okX5_show : jv_ok mX5_show 2 := ⟨lw_tg_in (tb_5 (List.mem_of_getElem? (i := 59) rfl)) rfl, lw_tg_in (tb_1 (List.mem_of_getElem? (i := 6) rfl)) rfl, ⟨by decide +kernel, by decide +kernel, by decide +kernel⟩, by decide +kernel, by decide⟩
theorem inX5_show : Cond.instanceMethod yX5_show ∈ lw_tg := lw_tg_in (tb_5 (List.mem_of_getElem? (i := 57) rfl)) rfl
theorem seX5_show : Cond.selects RX5 yX5_show yX5_show ∈ lw_tg := lw_tg_in (tb_5 (List.mem_of_getElem? (i := 58) rfl)) rfl
abbrev mX5_isCount : jv_M := (yX5_isCount, cX5_isCount, 2, some .boolean)
theorem okX5_isCount : jv_ok mX5_isCount 1 := ⟨lw_tg_in (tb_5 (List.mem_of_getElem? (i := 63) rfl)) rfl, lw_tg_in (tb_1 (List.mem_of_getElem? (i := 6) rfl)) rfl, ⟨by decide +kernel, by decide +kernel, by decide +kernel⟩, by decide +kernel, by decide⟩
theorem inX5_isCount : Cond.instanceMethod yX5_isCount ∈ lw_tg := lw_tg_in (tb_5 (List.mem_of_getElem? (i := 62) rfl)) rfl
theorem seX5_isCount : Cond.selects RX5 yX5_isCount yX5_isCount ∈ lw_tg := lw_tg_in (List.mem_of_getElem? (i := 30) (by decide +kernel)) rfl
abbrev mX5_says : jv_M := (yX5_says, cX5_says, 4, some .int)
theorem okX5_says : jv_ok mX5_says 2 := ⟨lw_tg_in (tb_5 (List.mem_of_getElem? (i := 67) rfl)) rfl, lw_tg_in (tb_1 (List.mem_of_getElem? (i := 6) rfl)) rfl, ⟨by decide +kernel, by decide +kernel, by decide +kernel⟩, by decide +kernel, by decide⟩
theorem inX5_says : Cond.instanceMethod yX5_says ∈ lw_tg := lw_tg_in (tb_5 (List.mem_of_getElem? (i := 65) rfl)) rfl
theorem seX5_says : Cond.selects RX5 yX5_says yX5_says ∈ lw_tg := lw_tg_in (tb_5 (List.mem_of_getElem? (i := 66) rfl)) rfl
abbrev mX5_isUnder : jv_M := (yX5_isUnder, cX5_isUnder, 2, some .boolean)
theorem okX5_isUnder : jv_ok mX5_isUnder 2 := ⟨lw_tg_in (tb_5 (List.mem_of_getElem? (i := 71) rfl)) rfl, lw_tg_in (tb_1 (List.mem_of_getElem? (i := 6) rfl)) rfl, ⟨by decide +kernel, by decide +kernel, by decide +kernel⟩, by decide +kernel, by decide⟩
theorem stX5_isUnder : Cond.static yX5_isUnder ∈ lw_tg := lw_tg_in (tb_5 (List.mem_of_getElem? (i := 70) rfl)) rfl
abbrev mX5_teamAt : jv_M := (yX5_teamAt, cX5_teamAt, 4, some .int)
theorem okX5_teamAt : jv_ok mX5_teamAt 2 := ⟨lw_tg_in (tb_5 (List.mem_of_getElem? (i := 75) rfl)) rfl, lw_tg_in (tb_1 (List.mem_of_getElem? (i := 6) rfl)) rfl, ⟨by decide +kernel, by decide +kernel, by decide +kernel⟩, by decide +kernel, by decide⟩
theorem inX5_teamAt : Cond.instanceMethod yX5_teamAt ∈ lw_tg := lw_tg_in (tb_5 (List.mem_of_getElem? (i := 74) rfl)) rfl
theorem seX5_teamAt : Cond.selects RX5 yX5_teamAt yX5_teamAt ∈ lw_tg := lw_tg_in (List.mem_of_getElem? (i := 31) (by decide +kernel)) rfl
abbrev mX5_slipped : jv_M := (yX5_slipped, cX5_slipped, 3, some .int)
theorem okX5_slipped : jv_ok mX5_slipped 2 := ⟨lw_tg_in (tb_5 (List.mem_of_getElem? (i := 79) rfl)) rfl, lw_tg_in (tb_1 (List.mem_of_getElem? (i := 6) rfl)) rfl, ⟨by decide +kernel, by decide +kernel, by decide +kernel⟩, by decide +kernel, by decide⟩
theorem inX5_slipped : Cond.instanceMethod yX5_slipped ∈ lw_tg := lw_tg_in (tb_5 (List.mem_of_getElem? (i := 78) rfl)) rfl
theorem seX5_slipped : Cond.selects RX5 yX5_slipped yX5_slipped ∈ lw_tg := lw_tg_in (List.mem_of_getElem? (i := 32) (by decide +kernel)) rfl
abbrev mX5_child : jv_M := (yX5_child, cX5_child, 3, some .int)
theorem okX5_child : jv_ok mX5_child 2 := ⟨lw_tg_in (tb_5 (List.mem_of_getElem? (i := 83) rfl)) rfl, lw_tg_in (tb_1 (List.mem_of_getElem? (i := 6) rfl)) rfl, ⟨by decide +kernel, by decide +kernel, by decide +kernel⟩, by decide +kernel, by decide⟩
theorem inX5_child : Cond.instanceMethod yX5_child ∈ lw_tg := lw_tg_in (tb_5 (List.mem_of_getElem? (i := 81) rfl)) rfl
theorem seX5_child : Cond.selects RX5 yX5_child yX5_child ∈ lw_tg := lw_tg_in (tb_5 (List.mem_of_getElem? (i := 82) rfl)) rfl
abbrev mX5_addChild : jv_M := (yX5_addChild, cX5_addChild, 3, none)
theorem okX5_addChild : jv_ok mX5_addChild 2 := ⟨lw_tg_in (tb_5 (List.mem_of_getElem? (i := 89) rfl)) rfl, lw_tg_in (tb_1 (List.mem_of_getElem? (i := 6) rfl)) rfl, ⟨by decide +kernel, by decide +kernel, by decide +kernel⟩, by decide +kernel, by decide⟩
theorem inX5_addChild : Cond.instanceMethod yX5_addChild ∈ lw_tg := lw_tg_in (tb_5 (List.mem_of_getElem? (i := 88) rfl)) rfl
theorem seX5_addChild : Cond.selects RX5 yX5_addChild yX5_addChild ∈ lw_tg := lw_tg_in (List.mem_of_getElem? (i := 33) (by decide +kernel)) rfl
abbrev mX5_count : jv_M := (yX5_count, cX5_count, 4, some .int)
theorem okX5_count : jv_ok mX5_count 3 := ⟨lw_tg_in (tb_5 (List.mem_of_getElem? (i := 93) rfl)) rfl, lw_tg_in (tb_1 (List.mem_of_getElem? (i := 6) rfl)) rfl, ⟨by decide +kernel, by decide +kernel, by decide +kernel⟩, by decide +kernel, by decide⟩
theorem inX5_count : Cond.instanceMethod yX5_count ∈ lw_tg := lw_tg_in (tb_5 (List.mem_of_getElem? (i := 91) rfl)) rfl
theorem seX5_count : Cond.selects RX5 yX5_count yX5_count ∈ lw_tg := lw_tg_in (tb_5 (List.mem_of_getElem? (i := 92) rfl)) rfl
abbrev mX5_addCount : jv_M := (yX5_addCount, cX5_addCount, 4, none)
theorem okX5_addCount : jv_ok mX5_addCount 3 := ⟨lw_tg_in (tb_5 (List.mem_of_getElem? (i := 99) rfl)) rfl, lw_tg_in (tb_1 (List.mem_of_getElem? (i := 6) rfl)) rfl, ⟨by decide +kernel, by decide +kernel, by decide +kernel⟩, by decide +kernel, by decide⟩
theorem inX5_addCount : Cond.instanceMethod yX5_addCount ∈ lw_tg := lw_tg_in (tb_5 (List.mem_of_getElem? (i := 98) rfl)) rfl
theorem seX5_addCount : Cond.selects RX5 yX5_addCount yX5_addCount ∈ lw_tg := lw_tg_in (List.mem_of_getElem? (i := 34) (by decide +kernel)) rfl
abbrev mX5_wish : jv_M := (yX5_wish, cX5_wish, 5, some .int)
theorem okX5_wish : jv_ok mX5_wish 4 := ⟨lw_tg_in (tb_5 (List.mem_of_getElem? (i := 103) rfl)) rfl, lw_tg_in (tb_1 (List.mem_of_getElem? (i := 6) rfl)) rfl, ⟨by decide +kernel, by decide +kernel, by decide +kernel⟩, by decide +kernel, by decide⟩
theorem inX5_wish : Cond.instanceMethod yX5_wish ∈ lw_tg := lw_tg_in (tb_5 (List.mem_of_getElem? (i := 101) rfl)) rfl
theorem seX5_wish : Cond.selects RX5 yX5_wish yX5_wish ∈ lw_tg := lw_tg_in (tb_5 (List.mem_of_getElem? (i := 102) rfl)) rfl
abbrev mX5_areTwo : jv_M := (yX5_areTwo, cX5_areTwo, 5, some .boolean)
theorem okX5_areTwo : jv_ok mX5_areTwo 2 := ⟨lw_tg_in (tb_5 (List.mem_of_getElem? (i := 107) rfl)) rfl, lw_tg_in (tb_1 (List.mem_of_getElem? (i := 6) rfl)) rfl, ⟨by decide +kernel, by decide +kernel, by decide +kernel⟩, by decide +kernel, by decide⟩
theorem inX5_areTwo : Cond.instanceMethod yX5_areTwo ∈ lw_tg := lw_tg_in (tb_5 (List.mem_of_getElem? (i := 106) rfl)) rfl
theorem seX5_areTwo : Cond.selects RX5 yX5_areTwo yX5_areTwo ∈ lw_tg := lw_tg_in (List.mem_of_getElem? (i := 35) (by decide +kernel)) rfl
abbrev mX5_isChild : jv_M := (yX5_isChild, cX5_isChild, 3, some .boolean)
theorem okX5_isChild : jv_ok mX5_isChild 1 := ⟨lw_tg_in (tb_5 (List.mem_of_getElem? (i := 111) rfl)) rfl, lw_tg_in (tb_1 (List.mem_of_getElem? (i := 6) rfl)) rfl, ⟨by decide +kernel, by decide +kernel, by decide +kernel⟩, by decide +kernel, by decide⟩
theorem inX5_isChild : Cond.instanceMethod yX5_isChild ∈ lw_tg := lw_tg_in (tb_5 (List.mem_of_getElem? (i := 110) rfl)) rfl
theorem seX5_isChild : Cond.selects RX5 yX5_isChild yX5_isChild ∈ lw_tg := lw_tg_in (List.mem_of_getElem? (i := 36) (by decide +kernel)) rfl
abbrev mX5_addWish : jv_M := (yX5_addWish, cX5_addWish, 5, none)
theorem okX5_addWish : jv_ok mX5_addWish 4 := ⟨lw_tg_in (tb_5 (List.mem_of_getElem? (i := 115) rfl)) rfl, lw_tg_in (tb_1 (List.mem_of_getElem? (i := 6) rfl)) rfl, ⟨by decide +kernel, by decide +kernel, by decide +kernel⟩, by decide +kernel, by decide⟩
theorem inX5_addWish : Cond.instanceMethod yX5_addWish ∈ lw_tg := lw_tg_in (tb_5 (List.mem_of_getElem? (i := 114) rfl)) rfl
theorem seX5_addWish : Cond.selects RX5 yX5_addWish yX5_addWish ∈ lw_tg := lw_tg_in (List.mem_of_getElem? (i := 37) (by decide +kernel)) rfl
abbrev mX5_content : jv_M := (yX5_content, cX5_content, 2, some .int)
theorem okX5_content : jv_ok mX5_content 0 := ⟨lw_tg_in (tb_5 (List.mem_of_getElem? (i := 119) rfl)) rfl, lw_tg_in (tb_1 (List.mem_of_getElem? (i := 6) rfl)) rfl, ⟨by decide +kernel, by decide +kernel, by decide +kernel⟩, by decide +kernel, by decide⟩
theorem inX5_content : Cond.instanceMethod yX5_content ∈ lw_tg := lw_tg_in (tb_5 (List.mem_of_getElem? (i := 117) rfl)) rfl
theorem seX5_content : Cond.selects RX5 yX5_content yX5_content ∈ lw_tg := lw_tg_in (tb_5 (List.mem_of_getElem? (i := 118) rfl)) rfl
abbrev mX5_feed : jv_M := (yX5_feed, cX5_feed, 2, some .int)
theorem okX5_feed : jv_ok mX5_feed 1 := ⟨lw_tg_in (tb_5 (List.mem_of_getElem? (i := 123) rfl)) rfl, lw_tg_in (tb_1 (List.mem_of_getElem? (i := 6) rfl)) rfl, ⟨by decide +kernel, by decide +kernel, by decide +kernel⟩, by decide +kernel, by decide⟩
theorem inX5_feed : Cond.instanceMethod yX5_feed ∈ lw_tg := lw_tg_in (tb_5 (List.mem_of_getElem? (i := 121) rfl)) rfl
theorem seX5_feed : Cond.selects RX5 yX5_feed yX5_feed ∈ lw_tg := lw_tg_in (tb_5 (List.mem_of_getElem? (i := 122) rfl)) rfl
abbrev mX5_wipe : jv_M := (yX5_wipe, cX5_wipe, 2, some .int)
theorem okX5_wipe : jv_ok mX5_wipe 0 := ⟨lw_tg_in (tb_5 (List.mem_of_getElem? (i := 128) rfl)) rfl, lw_tg_in (tb_1 (List.mem_of_getElem? (i := 6) rfl)) rfl, ⟨by decide +kernel, by decide +kernel, by decide +kernel⟩, by decide +kernel, by decide⟩
theorem inX5_wipe : Cond.instanceMethod yX5_wipe ∈ lw_tg := lw_tg_in (tb_5 (List.mem_of_getElem? (i := 126) rfl)) rfl
theorem seX5_wipe : Cond.selects RX5 yX5_wipe yX5_wipe ∈ lw_tg := lw_tg_in (tb_5 (List.mem_of_getElem? (i := 127) rfl)) rfl
abbrev mX5_yard : jv_M := (yX5_yard, cX5_yard, 3, some .int)
theorem okX5_yard : jv_ok mX5_yard 0 := ⟨lw_tg_in (tb_5 (List.mem_of_getElem? (i := 132) rfl)) rfl, lw_tg_in (tb_1 (List.mem_of_getElem? (i := 6) rfl)) rfl, ⟨by decide +kernel, by decide +kernel, by decide +kernel⟩, by decide +kernel, by decide⟩
theorem inX5_yard : Cond.instanceMethod yX5_yard ∈ lw_tg := lw_tg_in (tb_5 (List.mem_of_getElem? (i := 130) rfl)) rfl
theorem seX5_yard : Cond.selects RX5 yX5_yard yX5_yard ∈ lw_tg := lw_tg_in (tb_5 (List.mem_of_getElem? (i := 131) rfl)) rfl
abbrev mX5_fresh : jv_M := (yX5_fresh, cX5_fresh, 1, some (.object "OneTwoOneTwoModel"))
theorem okX5_fresh : jv_ok mX5_fresh 0 := ⟨lw_tg_in (tb_5 (List.mem_of_getElem? (i := 136) rfl)) rfl, lw_tg_in (tb_1 (List.mem_of_getElem? (i := 6) rfl)) rfl, ⟨by decide +kernel, by decide +kernel, by decide +kernel⟩, by decide +kernel, by decide⟩
theorem inX5_fresh : Cond.instanceMethod yX5_fresh ∈ lw_tg := lw_tg_in (tb_5 (List.mem_of_getElem? (i := 135) rfl)) rfl
theorem seX5_fresh : Cond.selects RX5 yX5_fresh yX5_fresh ∈ lw_tg := lw_tg_in (List.mem_of_getElem? (i := 38) (by decide +kernel)) rfl
abbrev mX5_takeFrom : jv_M := (yX5_takeFrom, cX5_takeFrom, 2, none)
theorem okX5_takeFrom : jv_ok mX5_takeFrom 1 := ⟨lw_tg_in (tb_5 (List.mem_of_getElem? (i := 142) rfl)) rfl, lw_tg_in (tb_1 (List.mem_of_getElem? (i := 6) rfl)) rfl, ⟨by decide +kernel, by decide +kernel, by decide +kernel⟩, by decide +kernel, by decide⟩
theorem inX5_takeFrom : Cond.instanceMethod yX5_takeFrom ∈ lw_tg := lw_tg_in (tb_5 (List.mem_of_getElem? (i := 141) rfl)) rfl
theorem seX5_takeFrom : Cond.selects RX5 yX5_takeFrom yX5_takeFrom ∈ lw_tg := lw_tg_in (List.mem_of_getElem? (i := 39) (by decide +kernel)) rfl
abbrev mX5_copied : jv_M := (yX5_copied, cX5_copied, 3, none)
theorem okX5_copied : jv_ok mX5_copied 2 := ⟨lw_tg_in (tb_5 (List.mem_of_getElem? (i := 145) rfl)) rfl, lw_tg_in (tb_1 (List.mem_of_getElem? (i := 6) rfl)) rfl, ⟨by decide +kernel, by decide +kernel, by decide +kernel⟩, by decide +kernel, by decide⟩
theorem stX5_copied : Cond.static yX5_copied ∈ lw_tg := lw_tg_in (tb_5 (List.mem_of_getElem? (i := 144) rfl)) rfl
abbrev mX5_readAll : jv_M := (yX5_readAll, cX5_readAll, 1, some .boolean)
theorem okX5_readAll : jv_ok mX5_readAll 0 := ⟨lw_tg_in (tb_5 (List.mem_of_getElem? (i := 149) rfl)) rfl, lw_tg_in (tb_1 (List.mem_of_getElem? (i := 6) rfl)) rfl, ⟨by decide +kernel, by decide +kernel, by decide +kernel⟩, by decide +kernel, by decide⟩
theorem inX5_readAll : Cond.instanceMethod yX5_readAll ∈ lw_tg := lw_tg_in (tb_5 (List.mem_of_getElem? (i := 148) rfl)) rfl
theorem seX5_readAll : Cond.selects RX5 yX5_readAll yX5_readAll ∈ lw_tg := lw_tg_in (List.mem_of_getElem? (i := 40) (by decide +kernel)) rfl
abbrev mX5_look : jv_M := (yX5_look, cX5_look, 1, none)
theorem okX5_look : jv_ok mX5_look 0 := ⟨lw_tg_in (tb_5 (List.mem_of_getElem? (i := 153) rfl)) rfl, lw_tg_in (tb_1 (List.mem_of_getElem? (i := 6) rfl)) rfl, ⟨by decide +kernel, by decide +kernel, by decide +kernel⟩, by decide +kernel, by decide⟩
theorem inX5_look : Cond.instanceMethod yX5_look ∈ lw_tg := lw_tg_in (tb_5 (List.mem_of_getElem? (i := 152) rfl)) rfl
theorem seX5_look : Cond.selects RX5 yX5_look yX5_look ∈ lw_tg := lw_tg_in (List.mem_of_getElem? (i := 41) (by decide +kernel)) rfl
abbrev mX5_isLetter : jv_M := (yX5_isLetter, cX5_isLetter, 1, some .boolean)
theorem okX5_isLetter : jv_ok mX5_isLetter 1 := ⟨lw_tg_in (tb_5 (List.mem_of_getElem? (i := 156) rfl)) rfl, lw_tg_in (tb_1 (List.mem_of_getElem? (i := 6) rfl)) rfl, ⟨by decide +kernel, by decide +kernel, by decide +kernel⟩, by decide +kernel, by decide⟩
theorem stX5_isLetter : Cond.static yX5_isLetter ∈ lw_tg := lw_tg_in (tb_5 (List.mem_of_getElem? (i := 155) rfl)) rfl
abbrev mX5_isDigit : jv_M := (yX5_isDigit, cX5_isDigit, 1, some .boolean)
theorem okX5_isDigit : jv_ok mX5_isDigit 1 := ⟨lw_tg_in (tb_5 (List.mem_of_getElem? (i := 159) rfl)) rfl, lw_tg_in (tb_1 (List.mem_of_getElem? (i := 6) rfl)) rfl, ⟨by decide +kernel, by decide +kernel, by decide +kernel⟩, by decide +kernel, by decide⟩
theorem stX5_isDigit : Cond.static yX5_isDigit ∈ lw_tg := lw_tg_in (tb_5 (List.mem_of_getElem? (i := 158) rfl)) rfl
abbrev mX5_statement : jv_M := (yX5_statement, cX5_statement, 1, some .boolean)
theorem okX5_statement : jv_ok mX5_statement 0 := ⟨lw_tg_in (tb_5 (List.mem_of_getElem? (i := 163) rfl)) rfl, lw_tg_in (tb_1 (List.mem_of_getElem? (i := 6) rfl)) rfl, ⟨by decide +kernel, by decide +kernel, by decide +kernel⟩, by decide +kernel, by decide⟩
theorem inX5_statement : Cond.instanceMethod yX5_statement ∈ lw_tg := lw_tg_in (tb_5 (List.mem_of_getElem? (i := 162) rfl)) rfl
theorem seX5_statement : Cond.selects RX5 yX5_statement yX5_statement ∈ lw_tg := lw_tg_in (List.mem_of_getElem? (i := 42) (by decide +kernel)) rfl
abbrev mX5_isWord : jv_M := (yX5_isWord, cX5_isWord, 3, some .boolean)
theorem okX5_isWord : jv_ok mX5_isWord 1 := ⟨lw_tg_in (tb_5 (List.mem_of_getElem? (i := 168) rfl)) rfl, lw_tg_in (tb_1 (List.mem_of_getElem? (i := 6) rfl)) rfl, ⟨by decide +kernel, by decide +kernel, by decide +kernel⟩, by decide +kernel, by decide⟩
theorem inX5_isWord : Cond.instanceMethod yX5_isWord ∈ lw_tg := lw_tg_in (tb_5 (List.mem_of_getElem? (i := 167) rfl)) rfl
theorem seX5_isWord : Cond.selects RX5 yX5_isWord yX5_isWord ∈ lw_tg := lw_tg_in (List.mem_of_getElem? (i := 43) (by decide +kernel)) rfl
abbrev mX5_tells : jv_M := (yX5_tells, cX5_tells, 3, some .boolean)
theorem okX5_tells : jv_ok mX5_tells 2 := ⟨lw_tg_in (tb_5 (List.mem_of_getElem? (i := 174) rfl)) rfl, lw_tg_in (tb_1 (List.mem_of_getElem? (i := 6) rfl)) rfl, ⟨by decide +kernel, by decide +kernel, by decide +kernel⟩, by decide +kernel, by decide⟩
theorem inX5_tells : Cond.instanceMethod yX5_tells ∈ lw_tg := lw_tg_in (tb_5 (List.mem_of_getElem? (i := 173) rfl)) rfl
theorem seX5_tells : Cond.selects RX5 yX5_tells yX5_tells ∈ lw_tg := lw_tg_in (List.mem_of_getElem? (i := 44) (by decide +kernel)) rfl
abbrev mX5_number : jv_M := (yX5_number, cX5_number, 4, some .boolean)
theorem okX5_number : jv_ok mX5_number 3 := ⟨lw_tg_in (tb_5 (List.mem_of_getElem? (i := 178) rfl)) rfl, lw_tg_in (tb_1 (List.mem_of_getElem? (i := 6) rfl)) rfl, ⟨by decide +kernel, by decide +kernel, by decide +kernel⟩, by decide +kernel, by decide⟩
theorem inX5_number : Cond.instanceMethod yX5_number ∈ lw_tg := lw_tg_in (tb_5 (List.mem_of_getElem? (i := 177) rfl)) rfl
theorem seX5_number : Cond.selects RX5 yX5_number yX5_number ∈ lw_tg := lw_tg_in (List.mem_of_getElem? (i := 45) (by decide +kernel)) rfl
abbrev mX5_wrong : jv_M := (yX5_wrong, cX5_wrong, 1, some .boolean)
theorem okX5_wrong : jv_ok mX5_wrong 0 := ⟨lw_tg_in (tb_5 (List.mem_of_getElem? (i := 182) rfl)) rfl, lw_tg_in (tb_1 (List.mem_of_getElem? (i := 6) rfl)) rfl, ⟨by decide +kernel, by decide +kernel, by decide +kernel⟩, by decide +kernel, by decide⟩
theorem inX5_wrong : Cond.instanceMethod yX5_wrong ∈ lw_tg := lw_tg_in (tb_5 (List.mem_of_getElem? (i := 181) rfl)) rfl
theorem seX5_wrong : Cond.selects RX5 yX5_wrong yX5_wrong ∈ lw_tg := lw_tg_in (List.mem_of_getElem? (i := 46) (by decide +kernel)) rfl
abbrev mX5_wishTold : jv_M := (yX5_wishTold, cX5_wishTold, 2, some .boolean)
theorem okX5_wishTold : jv_ok mX5_wishTold 1 := ⟨lw_tg_in (tb_5 (List.mem_of_getElem? (i := 188) rfl)) rfl, lw_tg_in (tb_1 (List.mem_of_getElem? (i := 6) rfl)) rfl, ⟨by decide +kernel, by decide +kernel, by decide +kernel⟩, by decide +kernel, by decide⟩
theorem inX5_wishTold : Cond.instanceMethod yX5_wishTold ∈ lw_tg := lw_tg_in (tb_5 (List.mem_of_getElem? (i := 187) rfl)) rfl
theorem seX5_wishTold : Cond.selects RX5 yX5_wishTold yX5_wishTold ∈ lw_tg := lw_tg_in (List.mem_of_getElem? (i := 47) (by decide +kernel)) rfl
abbrev mX5_twoTold : jv_M := (yX5_twoTold, cX5_twoTold, 1, some .boolean)
theorem okX5_twoTold : jv_ok mX5_twoTold 0 := ⟨lw_tg_in (tb_5 (List.mem_of_getElem? (i := 192) rfl)) rfl, lw_tg_in (tb_1 (List.mem_of_getElem? (i := 6) rfl)) rfl, ⟨by decide +kernel, by decide +kernel, by decide +kernel⟩, by decide +kernel, by decide⟩
theorem inX5_twoTold : Cond.instanceMethod yX5_twoTold ∈ lw_tg := lw_tg_in (tb_5 (List.mem_of_getElem? (i := 191) rfl)) rfl
theorem seX5_twoTold : Cond.selects RX5 yX5_twoTold yX5_twoTold ∈ lw_tg := lw_tg_in (List.mem_of_getElem? (i := 48) (by decide +kernel)) rfl
abbrev mX5_swaps : jv_M := (yX5_swaps, cX5_swaps, 4, none)
theorem okX5_swaps : jv_ok mX5_swaps 2 := ⟨lw_tg_in (tb_5 (List.mem_of_getElem? (i := 198) rfl)) rfl, lw_tg_in (tb_1 (List.mem_of_getElem? (i := 6) rfl)) rfl, ⟨by decide +kernel, by decide +kernel, by decide +kernel⟩, by decide +kernel, by decide⟩
theorem inX5_swaps : Cond.instanceMethod yX5_swaps ∈ lw_tg := lw_tg_in (tb_5 (List.mem_of_getElem? (i := 197) rfl)) rfl
theorem seX5_swaps : Cond.selects RX5 yX5_swaps yX5_swaps ∈ lw_tg := lw_tg_in (List.mem_of_getElem? (i := 49) (by decide +kernel)) rfl
abbrev mX5_moves : jv_M := (yX5_moves, cX5_moves, 5, none)
theorem okX5_moves : jv_ok mX5_moves 2 := ⟨lw_tg_in (tb_5 (List.mem_of_getElem? (i := 203) rfl)) rfl, lw_tg_in (tb_1 (List.mem_of_getElem? (i := 6) rfl)) rfl, ⟨by decide +kernel, by decide +kernel, by decide +kernel⟩, by decide +kernel, by decide⟩
theorem inX5_moves : Cond.instanceMethod yX5_moves ∈ lw_tg := lw_tg_in (tb_5 (List.mem_of_getElem? (i := 202) rfl)) rfl
theorem seX5_moves : Cond.selects RX5 yX5_moves yX5_moves ∈ lw_tg := lw_tg_in (List.mem_of_getElem? (i := 50) (by decide +kernel)) rfl
abbrev mX5_childOf : jv_M := (yX5_childOf, cX5_childOf, 5, some .int)
theorem okX5_childOf : jv_ok mX5_childOf 2 := ⟨lw_tg_in (tb_5 (List.mem_of_getElem? (i := 207) rfl)) rfl, lw_tg_in (tb_1 (List.mem_of_getElem? (i := 6) rfl)) rfl, ⟨by decide +kernel, by decide +kernel, by decide +kernel⟩, by decide +kernel, by decide⟩
theorem inX5_childOf : Cond.instanceMethod yX5_childOf ∈ lw_tg := lw_tg_in (tb_5 (List.mem_of_getElem? (i := 205) rfl)) rfl
theorem seX5_childOf : Cond.selects RX5 yX5_childOf yX5_childOf ∈ lw_tg := lw_tg_in (tb_5 (List.mem_of_getElem? (i := 206) rfl)) rfl
abbrev mX5_countOf : jv_M := (yX5_countOf, cX5_countOf, 3, some .int)
theorem okX5_countOf : jv_ok mX5_countOf 2 := ⟨lw_tg_in (tb_5 (List.mem_of_getElem? (i := 212) rfl)) rfl, lw_tg_in (tb_1 (List.mem_of_getElem? (i := 6) rfl)) rfl, ⟨by decide +kernel, by decide +kernel, by decide +kernel⟩, by decide +kernel, by decide⟩
theorem inX5_countOf : Cond.instanceMethod yX5_countOf ∈ lw_tg := lw_tg_in (tb_5 (List.mem_of_getElem? (i := 210) rfl)) rfl
theorem seX5_countOf : Cond.selects RX5 yX5_countOf yX5_countOf ∈ lw_tg := lw_tg_in (tb_5 (List.mem_of_getElem? (i := 211) rfl)) rfl
abbrev mX5_wishOf : jv_M := (yX5_wishOf, cX5_wishOf, 3, some .int)
theorem okX5_wishOf : jv_ok mX5_wishOf 2 := ⟨lw_tg_in (tb_5 (List.mem_of_getElem? (i := 216) rfl)) rfl, lw_tg_in (tb_1 (List.mem_of_getElem? (i := 6) rfl)) rfl, ⟨by decide +kernel, by decide +kernel, by decide +kernel⟩, by decide +kernel, by decide⟩
theorem inX5_wishOf : Cond.instanceMethod yX5_wishOf ∈ lw_tg := lw_tg_in (tb_5 (List.mem_of_getElem? (i := 214) rfl)) rfl
theorem seX5_wishOf : Cond.selects RX5 yX5_wishOf yX5_wishOf ∈ lw_tg := lw_tg_in (tb_5 (List.mem_of_getElem? (i := 215) rfl)) rfl
abbrev mX5_at : jv_M := (yX5_at, cX5_at, 2, some .int)
theorem okX5_at : jv_ok mX5_at 1 := ⟨lw_tg_in (tb_5 (List.mem_of_getElem? (i := 220) rfl)) rfl, lw_tg_in (tb_1 (List.mem_of_getElem? (i := 6) rfl)) rfl, ⟨by decide +kernel, by decide +kernel, by decide +kernel⟩, by decide +kernel, by decide⟩
theorem inX5_at : Cond.instanceMethod yX5_at ∈ lw_tg := lw_tg_in (tb_5 (List.mem_of_getElem? (i := 218) rfl)) rfl
theorem seX5_at : Cond.selects RX5 yX5_at yX5_at ∈ lw_tg := lw_tg_in (tb_5 (List.mem_of_getElem? (i := 219) rfl)) rfl
abbrev mX5_standing : jv_M := (yX5_standing, cX5_standing, 3, some .int)
theorem okX5_standing : jv_ok mX5_standing 1 := ⟨lw_tg_in (tb_5 (List.mem_of_getElem? (i := 224) rfl)) rfl, lw_tg_in (tb_1 (List.mem_of_getElem? (i := 6) rfl)) rfl, ⟨by decide +kernel, by decide +kernel, by decide +kernel⟩, by decide +kernel, by decide⟩
theorem inX5_standing : Cond.instanceMethod yX5_standing ∈ lw_tg := lw_tg_in (tb_5 (List.mem_of_getElem? (i := 223) rfl)) rfl
theorem seX5_standing : Cond.selects RX5 yX5_standing yX5_standing ∈ lw_tg := lw_tg_in (List.mem_of_getElem? (i := 51) (by decide +kernel)) rfl
abbrev mX5_team : jv_M := (yX5_team, cX5_team, 3, some .int)
theorem okX5_team : jv_ok mX5_team 2 := ⟨lw_tg_in (tb_5 (List.mem_of_getElem? (i := 228) rfl)) rfl, lw_tg_in (tb_1 (List.mem_of_getElem? (i := 6) rfl)) rfl, ⟨by decide +kernel, by decide +kernel, by decide +kernel⟩, by decide +kernel, by decide⟩
theorem inX5_team : Cond.instanceMethod yX5_team ∈ lw_tg := lw_tg_in (tb_5 (List.mem_of_getElem? (i := 226) rfl)) rfl
theorem seX5_team : Cond.selects RX5 yX5_team yX5_team ∈ lw_tg := lw_tg_in (tb_5 (List.mem_of_getElem? (i := 227) rfl)) rfl
abbrev mX5_teamOf : jv_M := (yX5_teamOf, cX5_teamOf, 3, some .int)
theorem okX5_teamOf : jv_ok mX5_teamOf 2 := ⟨lw_tg_in (tb_5 (List.mem_of_getElem? (i := 232) rfl)) rfl, lw_tg_in (tb_1 (List.mem_of_getElem? (i := 6) rfl)) rfl, ⟨by decide +kernel, by decide +kernel, by decide +kernel⟩, by decide +kernel, by decide⟩
theorem inX5_teamOf : Cond.instanceMethod yX5_teamOf ∈ lw_tg := lw_tg_in (tb_5 (List.mem_of_getElem? (i := 231) rfl)) rfl
theorem seX5_teamOf : Cond.selects RX5 yX5_teamOf yX5_teamOf ∈ lw_tg := lw_tg_in (List.mem_of_getElem? (i := 52) (by decide +kernel)) rfl
abbrev mX5_members : jv_M := (yX5_members, cX5_members, 5, some .int)
theorem okX5_members : jv_ok mX5_members 2 := ⟨lw_tg_in (tb_5 (List.mem_of_getElem? (i := 236) rfl)) rfl, lw_tg_in (tb_1 (List.mem_of_getElem? (i := 6) rfl)) rfl, ⟨by decide +kernel, by decide +kernel, by decide +kernel⟩, by decide +kernel, by decide⟩
theorem inX5_members : Cond.instanceMethod yX5_members ∈ lw_tg := lw_tg_in (tb_5 (List.mem_of_getElem? (i := 234) rfl)) rfl
theorem seX5_members : Cond.selects RX5 yX5_members yX5_members ∈ lw_tg := lw_tg_in (tb_5 (List.mem_of_getElem? (i := 235) rfl)) rfl
abbrev mX5_isTeam : jv_M := (yX5_isTeam, cX5_isTeam, 3, some .boolean)
theorem okX5_isTeam : jv_ok mX5_isTeam 2 := ⟨lw_tg_in (tb_6 (List.mem_of_getElem? (i := 0) rfl)) rfl, lw_tg_in (tb_1 (List.mem_of_getElem? (i := 6) rfl)) rfl, ⟨by decide +kernel, by decide +kernel, by decide +kernel⟩, by decide +kernel, by decide⟩
theorem inX5_isTeam : Cond.instanceMethod yX5_isTeam ∈ lw_tg := lw_tg_in (tb_5 (List.mem_of_getElem? (i := 239) rfl)) rfl
theorem seX5_isTeam : Cond.selects RX5 yX5_isTeam yX5_isTeam ∈ lw_tg := lw_tg_in (List.mem_of_getElem? (i := 53) (by decide +kernel)) rfl
abbrev mX5_strength : jv_M := (yX5_strength, cX5_strength, 3, some .int)
theorem okX5_strength : jv_ok mX5_strength 2 := ⟨lw_tg_in (tb_6 (List.mem_of_getElem? (i := 4) rfl)) rfl, lw_tg_in (tb_1 (List.mem_of_getElem? (i := 6) rfl)) rfl, ⟨by decide +kernel, by decide +kernel, by decide +kernel⟩, by decide +kernel, by decide⟩
theorem inX5_strength : Cond.instanceMethod yX5_strength ∈ lw_tg := lw_tg_in (tb_6 (List.mem_of_getElem? (i := 2) rfl)) rfl
theorem seX5_strength : Cond.selects RX5 yX5_strength yX5_strength ∈ lw_tg := lw_tg_in (tb_6 (List.mem_of_getElem? (i := 3) rfl)) rfl
abbrev mX5_strengthOf : jv_M := (yX5_strengthOf, cX5_strengthOf, 5, some .int)
theorem okX5_strengthOf : jv_ok mX5_strengthOf 2 := ⟨lw_tg_in (tb_6 (List.mem_of_getElem? (i := 8) rfl)) rfl, lw_tg_in (tb_1 (List.mem_of_getElem? (i := 6) rfl)) rfl, ⟨by decide +kernel, by decide +kernel, by decide +kernel⟩, by decide +kernel, by decide⟩
theorem inX5_strengthOf : Cond.instanceMethod yX5_strengthOf ∈ lw_tg := lw_tg_in (tb_6 (List.mem_of_getElem? (i := 7) rfl)) rfl
theorem seX5_strengthOf : Cond.selects RX5 yX5_strengthOf yX5_strengthOf ∈ lw_tg := lw_tg_in (List.mem_of_getElem? (i := 54) (by decide +kernel)) rfl
abbrev mX5_heaviest : jv_M := (yX5_heaviest, cX5_heaviest, 4, some .int)
theorem okX5_heaviest : jv_ok mX5_heaviest 1 := ⟨lw_tg_in (tb_6 (List.mem_of_getElem? (i := 12) rfl)) rfl, lw_tg_in (tb_1 (List.mem_of_getElem? (i := 6) rfl)) rfl, ⟨by decide +kernel, by decide +kernel, by decide +kernel⟩, by decide +kernel, by decide⟩
theorem inX5_heaviest : Cond.instanceMethod yX5_heaviest ∈ lw_tg := lw_tg_in (tb_6 (List.mem_of_getElem? (i := 10) rfl)) rfl
theorem seX5_heaviest : Cond.selects RX5 yX5_heaviest yX5_heaviest ∈ lw_tg := lw_tg_in (tb_6 (List.mem_of_getElem? (i := 11) rfl)) rfl
abbrev mX5_turned : jv_M := (yX5_turned, cX5_turned, 3, some .int)
theorem okX5_turned : jv_ok mX5_turned 1 := ⟨lw_tg_in (tb_6 (List.mem_of_getElem? (i := 16) rfl)) rfl, lw_tg_in (tb_1 (List.mem_of_getElem? (i := 6) rfl)) rfl, ⟨by decide +kernel, by decide +kernel, by decide +kernel⟩, by decide +kernel, by decide⟩
theorem inX5_turned : Cond.instanceMethod yX5_turned ∈ lw_tg := lw_tg_in (tb_6 (List.mem_of_getElem? (i := 14) rfl)) rfl
theorem seX5_turned : Cond.selects RX5 yX5_turned yX5_turned ∈ lw_tg := lw_tg_in (tb_6 (List.mem_of_getElem? (i := 15) rfl)) rfl
abbrev mX5_turns : jv_M := (yX5_turns, cX5_turns, 2, none)
theorem okX5_turns : jv_ok mX5_turns 0 := ⟨lw_tg_in (tb_6 (List.mem_of_getElem? (i := 20) rfl)) rfl, lw_tg_in (tb_1 (List.mem_of_getElem? (i := 6) rfl)) rfl, ⟨by decide +kernel, by decide +kernel, by decide +kernel⟩, by decide +kernel, by decide⟩
theorem inX5_turns : Cond.instanceMethod yX5_turns ∈ lw_tg := lw_tg_in (tb_6 (List.mem_of_getElem? (i := 19) rfl)) rfl
theorem seX5_turns : Cond.selects RX5 yX5_turns yX5_turns ∈ lw_tg := lw_tg_in (List.mem_of_getElem? (i := 55) (by decide +kernel)) rfl
abbrev mX5_valueOf : jv_M := (yX5_valueOf, cX5_valueOf, 4, some .int)
theorem okX5_valueOf : jv_ok mX5_valueOf 1 := ⟨lw_tg_in (tb_6 (List.mem_of_getElem? (i := 24) rfl)) rfl, lw_tg_in (tb_1 (List.mem_of_getElem? (i := 6) rfl)) rfl, ⟨by decide +kernel, by decide +kernel, by decide +kernel⟩, by decide +kernel, by decide⟩
theorem inX5_valueOf : Cond.instanceMethod yX5_valueOf ∈ lw_tg := lw_tg_in (tb_6 (List.mem_of_getElem? (i := 23) rfl)) rfl
theorem seX5_valueOf : Cond.selects RX5 yX5_valueOf yX5_valueOf ∈ lw_tg := lw_tg_in (List.mem_of_getElem? (i := 56) (by decide +kernel)) rfl
abbrev mX5_isMet : jv_M := (yX5_isMet, cX5_isMet, 3, some .boolean)
theorem okX5_isMet : jv_ok mX5_isMet 2 := ⟨lw_tg_in (tb_6 (List.mem_of_getElem? (i := 28) rfl)) rfl, lw_tg_in (tb_1 (List.mem_of_getElem? (i := 6) rfl)) rfl, ⟨by decide +kernel, by decide +kernel, by decide +kernel⟩, by decide +kernel, by decide⟩
theorem inX5_isMet : Cond.instanceMethod yX5_isMet ∈ lw_tg := lw_tg_in (tb_6 (List.mem_of_getElem? (i := 27) rfl)) rfl
theorem seX5_isMet : Cond.selects RX5 yX5_isMet yX5_isMet ∈ lw_tg := lw_tg_in (List.mem_of_getElem? (i := 57) (by decide +kernel)) rfl
abbrev mX5_areIn : jv_M := (yX5_areIn, cX5_areIn, 4, some .boolean)
theorem okX5_areIn : jv_ok mX5_areIn 3 := ⟨lw_tg_in (tb_6 (List.mem_of_getElem? (i := 32) rfl)) rfl, lw_tg_in (tb_1 (List.mem_of_getElem? (i := 6) rfl)) rfl, ⟨by decide +kernel, by decide +kernel, by decide +kernel⟩, by decide +kernel, by decide⟩
theorem inX5_areIn : Cond.instanceMethod yX5_areIn ∈ lw_tg := lw_tg_in (tb_6 (List.mem_of_getElem? (i := 31) rfl)) rfl
theorem seX5_areIn : Cond.selects RX5 yX5_areIn yX5_areIn ∈ lw_tg := lw_tg_in (List.mem_of_getElem? (i := 58) (by decide +kernel)) rfl
abbrev mX5_unlike : jv_M := (yX5_unlike, cX5_unlike, 5, some .int)
theorem okX5_unlike : jv_ok mX5_unlike 2 := ⟨lw_tg_in (tb_6 (List.mem_of_getElem? (i := 36) rfl)) rfl, lw_tg_in (tb_1 (List.mem_of_getElem? (i := 6) rfl)) rfl, ⟨by decide +kernel, by decide +kernel, by decide +kernel⟩, by decide +kernel, by decide⟩
theorem inX5_unlike : Cond.instanceMethod yX5_unlike ∈ lw_tg := lw_tg_in (tb_6 (List.mem_of_getElem? (i := 34) rfl)) rfl
theorem seX5_unlike : Cond.selects RX5 yX5_unlike yX5_unlike ∈ lw_tg := lw_tg_in (tb_6 (List.mem_of_getElem? (i := 35) rfl)) rfl
abbrev mX5_unmet : jv_M := (yX5_unmet, cX5_unmet, 4, some .int)
theorem okX5_unmet : jv_ok mX5_unmet 1 := ⟨lw_tg_in (tb_6 (List.mem_of_getElem? (i := 40) rfl)) rfl, lw_tg_in (tb_1 (List.mem_of_getElem? (i := 6) rfl)) rfl, ⟨by decide +kernel, by decide +kernel, by decide +kernel⟩, by decide +kernel, by decide⟩
theorem inX5_unmet : Cond.instanceMethod yX5_unmet ∈ lw_tg := lw_tg_in (tb_6 (List.mem_of_getElem? (i := 38) rfl)) rfl
theorem seX5_unmet : Cond.selects RX5 yX5_unmet yX5_unmet ∈ lw_tg := lw_tg_in (tb_6 (List.mem_of_getElem? (i := 39) rfl)) rfl
abbrev mX5_friendsOf : jv_M := (yX5_friendsOf, cX5_friendsOf, 2, some .int)
theorem okX5_friendsOf : jv_ok mX5_friendsOf 1 := ⟨lw_tg_in (tb_6 (List.mem_of_getElem? (i := 44) rfl)) rfl, lw_tg_in (tb_1 (List.mem_of_getElem? (i := 6) rfl)) rfl, ⟨by decide +kernel, by decide +kernel, by decide +kernel⟩, by decide +kernel, by decide⟩
theorem inX5_friendsOf : Cond.instanceMethod yX5_friendsOf ∈ lw_tg := lw_tg_in (tb_6 (List.mem_of_getElem? (i := 42) rfl)) rfl
theorem seX5_friendsOf : Cond.selects RX5 yX5_friendsOf yX5_friendsOf ∈ lw_tg := lw_tg_in (tb_6 (List.mem_of_getElem? (i := 43) rfl)) rfl
abbrev mX5_friends : jv_M := (yX5_friends, cX5_friends, 5, some .int)
theorem okX5_friends : jv_ok mX5_friends 1 := ⟨lw_tg_in (tb_6 (List.mem_of_getElem? (i := 48) rfl)) rfl, lw_tg_in (tb_1 (List.mem_of_getElem? (i := 6) rfl)) rfl, ⟨by decide +kernel, by decide +kernel, by decide +kernel⟩, by decide +kernel, by decide⟩
theorem inX5_friends : Cond.instanceMethod yX5_friends ∈ lw_tg := lw_tg_in (tb_6 (List.mem_of_getElem? (i := 47) rfl)) rfl
theorem seX5_friends : Cond.selects RX5 yX5_friends yX5_friends ∈ lw_tg := lw_tg_in (List.mem_of_getElem? (i := 59) (by decide +kernel)) rfl
abbrev mX5_has : jv_M := (yX5_has, cX5_has, 2, some .boolean)
theorem okX5_has : jv_ok mX5_has 2 := ⟨lw_tg_in (tb_6 (List.mem_of_getElem? (i := 51) rfl)) rfl, lw_tg_in (tb_1 (List.mem_of_getElem? (i := 6) rfl)) rfl, ⟨by decide +kernel, by decide +kernel, by decide +kernel⟩, by decide +kernel, by decide⟩
theorem stX5_has : Cond.static yX5_has ∈ lw_tg := lw_tg_in (tb_6 (List.mem_of_getElem? (i := 50) rfl)) rfl
abbrev mX5_groups : jv_M := (yX5_groups, cX5_groups, 4, some .int)
theorem okX5_groups : jv_ok mX5_groups 0 := ⟨lw_tg_in (tb_6 (List.mem_of_getElem? (i := 55) rfl)) rfl, lw_tg_in (tb_1 (List.mem_of_getElem? (i := 6) rfl)) rfl, ⟨by decide +kernel, by decide +kernel, by decide +kernel⟩, by decide +kernel, by decide⟩
theorem inX5_groups : Cond.instanceMethod yX5_groups ∈ lw_tg := lw_tg_in (tb_6 (List.mem_of_getElem? (i := 53) rfl)) rfl
theorem seX5_groups : Cond.selects RX5 yX5_groups yX5_groups ∈ lw_tg := lw_tg_in (tb_6 (List.mem_of_getElem? (i := 54) rfl)) rfl
abbrev mX5_conflict : jv_M := (yX5_conflict, cX5_conflict, 2, some .int)
theorem okX5_conflict : jv_ok mX5_conflict 0 := ⟨lw_tg_in (tb_6 (List.mem_of_getElem? (i := 59) rfl)) rfl, lw_tg_in (tb_1 (List.mem_of_getElem? (i := 6) rfl)) rfl, ⟨by decide +kernel, by decide +kernel, by decide +kernel⟩, by decide +kernel, by decide⟩
theorem inX5_conflict : Cond.instanceMethod yX5_conflict ∈ lw_tg := lw_tg_in (tb_6 (List.mem_of_getElem? (i := 57) rfl)) rfl
theorem seX5_conflict : Cond.selects RX5 yX5_conflict yX5_conflict ∈ lw_tg := lw_tg_in (tb_6 (List.mem_of_getElem? (i := 58) rfl)) rfl
abbrev mX5_value : jv_M := (yX5_value, cX5_value, 2, some .int)
theorem okX5_value : jv_ok mX5_value 1 := ⟨lw_tg_in (tb_6 (List.mem_of_getElem? (i := 63) rfl)) rfl, lw_tg_in (tb_1 (List.mem_of_getElem? (i := 6) rfl)) rfl, ⟨by decide +kernel, by decide +kernel, by decide +kernel⟩, by decide +kernel, by decide⟩
theorem inX5_value : Cond.instanceMethod yX5_value ∈ lw_tg := lw_tg_in (tb_6 (List.mem_of_getElem? (i := 61) rfl)) rfl
theorem seX5_value : Cond.selects RX5 yX5_value yX5_value ∈ lw_tg := lw_tg_in (tb_6 (List.mem_of_getElem? (i := 62) rfl)) rfl
abbrev mX5_met : jv_M := (yX5_met, cX5_met, 3, some .int)
theorem okX5_met : jv_ok mX5_met 2 := ⟨lw_tg_in (tb_6 (List.mem_of_getElem? (i := 67) rfl)) rfl, lw_tg_in (tb_1 (List.mem_of_getElem? (i := 6) rfl)) rfl, ⟨by decide +kernel, by decide +kernel, by decide +kernel⟩, by decide +kernel, by decide⟩
theorem inX5_met : Cond.instanceMethod yX5_met ∈ lw_tg := lw_tg_in (tb_6 (List.mem_of_getElem? (i := 65) rfl)) rfl
theorem seX5_met : Cond.selects RX5 yX5_met yX5_met ∈ lw_tg := lw_tg_in (tb_6 (List.mem_of_getElem? (i := 66) rfl)) rfl
abbrev mX5_even : jv_M := (yX5_even, cX5_even, 2, some .int)
theorem okX5_even : jv_ok mX5_even 1 := ⟨lw_tg_in (tb_6 (List.mem_of_getElem? (i := 71) rfl)) rfl, lw_tg_in (tb_1 (List.mem_of_getElem? (i := 6) rfl)) rfl, ⟨by decide +kernel, by decide +kernel, by decide +kernel⟩, by decide +kernel, by decide⟩
theorem inX5_even : Cond.instanceMethod yX5_even ∈ lw_tg := lw_tg_in (tb_6 (List.mem_of_getElem? (i := 69) rfl)) rfl
theorem seX5_even : Cond.selects RX5 yX5_even yX5_even ∈ lw_tg := lw_tg_in (tb_6 (List.mem_of_getElem? (i := 70) rfl)) rfl
abbrev mX5_evenOf : jv_M := (yX5_evenOf, cX5_evenOf, 6, some .int)
theorem okX5_evenOf : jv_ok mX5_evenOf 1 := ⟨lw_tg_in (tb_6 (List.mem_of_getElem? (i := 75) rfl)) rfl, lw_tg_in (tb_1 (List.mem_of_getElem? (i := 6) rfl)) rfl, ⟨by decide +kernel, by decide +kernel, by decide +kernel⟩, by decide +kernel, by decide⟩
theorem inX5_evenOf : Cond.instanceMethod yX5_evenOf ∈ lw_tg := lw_tg_in (tb_6 (List.mem_of_getElem? (i := 74) rfl)) rfl
theorem seX5_evenOf : Cond.selects RX5 yX5_evenOf yX5_evenOf ∈ lw_tg := lw_tg_in (List.mem_of_getElem? (i := 60) (by decide +kernel)) rfl
abbrev mX5_best : jv_M := (yX5_best, cX5_best, 6, some .int)
theorem okX5_best : jv_ok mX5_best 1 := ⟨lw_tg_in (tb_6 (List.mem_of_getElem? (i := 79) rfl)) rfl, lw_tg_in (tb_1 (List.mem_of_getElem? (i := 6) rfl)) rfl, ⟨by decide +kernel, by decide +kernel, by decide +kernel⟩, by decide +kernel, by decide⟩
theorem inX5_best : Cond.instanceMethod yX5_best ∈ lw_tg := lw_tg_in (tb_6 (List.mem_of_getElem? (i := 77) rfl)) rfl
theorem seX5_best : Cond.selects RX5 yX5_best yX5_best ∈ lw_tg := lw_tg_in (tb_6 (List.mem_of_getElem? (i := 78) rfl)) rfl
abbrev mX5_change : jv_M := (yX5_change, cX5_change, 7, some .int)
theorem okX5_change : jv_ok mX5_change 1 := ⟨lw_tg_in (tb_6 (List.mem_of_getElem? (i := 83) rfl)) rfl, lw_tg_in (tb_1 (List.mem_of_getElem? (i := 6) rfl)) rfl, ⟨by decide +kernel, by decide +kernel, by decide +kernel⟩, by decide +kernel, by decide⟩
theorem inX5_change : Cond.instanceMethod yX5_change ∈ lw_tg := lw_tg_in (tb_6 (List.mem_of_getElem? (i := 81) rfl)) rfl
theorem seX5_change : Cond.selects RX5 yX5_change yX5_change ∈ lw_tg := lw_tg_in (tb_6 (List.mem_of_getElem? (i := 82) rfl)) rfl
abbrev mX5_mayChange : jv_M := (yX5_mayChange, cX5_mayChange, 4, some .boolean)
theorem okX5_mayChange : jv_ok mX5_mayChange 2 := ⟨lw_tg_in (tb_6 (List.mem_of_getElem? (i := 87) rfl)) rfl, lw_tg_in (tb_1 (List.mem_of_getElem? (i := 6) rfl)) rfl, ⟨by decide +kernel, by decide +kernel, by decide +kernel⟩, by decide +kernel, by decide⟩
theorem inX5_mayChange : Cond.instanceMethod yX5_mayChange ∈ lw_tg := lw_tg_in (tb_6 (List.mem_of_getElem? (i := 86) rfl)) rfl
theorem seX5_mayChange : Cond.selects RX5 yX5_mayChange yX5_mayChange ∈ lw_tg := lw_tg_in (List.mem_of_getElem? (i := 61) (by decide +kernel)) rfl
abbrev mX5_changes : jv_M := (yX5_changes, cX5_changes, 4, some .int)
theorem okX5_changes : jv_ok mX5_changes 2 := ⟨lw_tg_in (tb_6 (List.mem_of_getElem? (i := 91) rfl)) rfl, lw_tg_in (tb_1 (List.mem_of_getElem? (i := 6) rfl)) rfl, ⟨by decide +kernel, by decide +kernel, by decide +kernel⟩, by decide +kernel, by decide⟩
theorem inX5_changes : Cond.instanceMethod yX5_changes ∈ lw_tg := lw_tg_in (tb_6 (List.mem_of_getElem? (i := 89) rfl)) rfl
theorem seX5_changes : Cond.selects RX5 yX5_changes yX5_changes ∈ lw_tg := lw_tg_in (tb_6 (List.mem_of_getElem? (i := 90) rfl)) rfl
abbrev mX5_canBeBy : jv_M := (yX5_canBeBy, cX5_canBeBy, 7, some .boolean)
theorem okX5_canBeBy : jv_ok mX5_canBeBy 3 := ⟨lw_tg_in (tb_6 (List.mem_of_getElem? (i := 96) rfl)) rfl, lw_tg_in (tb_1 (List.mem_of_getElem? (i := 6) rfl)) rfl, ⟨by decide +kernel, by decide +kernel, by decide +kernel⟩, by decide +kernel, by decide⟩
theorem inX5_canBeBy : Cond.instanceMethod yX5_canBeBy ∈ lw_tg := lw_tg_in (tb_6 (List.mem_of_getElem? (i := 95) rfl)) rfl
theorem seX5_canBeBy : Cond.selects RX5 yX5_canBeBy yX5_canBeBy ∈ lw_tg := lw_tg_in (List.mem_of_getElem? (i := 62) (by decide +kernel)) rfl
abbrev mX5_place : jv_M := (yX5_place, cX5_place, 8, some .int)
theorem okX5_place : jv_ok mX5_place 1 := ⟨lw_tg_in (tb_6 (List.mem_of_getElem? (i := 100) rfl)) rfl, lw_tg_in (tb_1 (List.mem_of_getElem? (i := 6) rfl)) rfl, ⟨by decide +kernel, by decide +kernel, by decide +kernel⟩, by decide +kernel, by decide⟩
theorem inX5_place : Cond.instanceMethod yX5_place ∈ lw_tg := lw_tg_in (tb_6 (List.mem_of_getElem? (i := 98) rfl)) rfl
theorem seX5_place : Cond.selects RX5 yX5_place yX5_place ∈ lw_tg := lw_tg_in (tb_6 (List.mem_of_getElem? (i := 99) rfl)) rfl
abbrev mX5_far : jv_M := (yX5_far, cX5_far, 10, some .int)
theorem okX5_far : jv_ok mX5_far 3 := ⟨lw_tg_in (tb_6 (List.mem_of_getElem? (i := 104) rfl)) rfl, lw_tg_in (tb_1 (List.mem_of_getElem? (i := 6) rfl)) rfl, ⟨by decide +kernel, by decide +kernel, by decide +kernel⟩, by decide +kernel, by decide⟩
theorem inX5_far : Cond.instanceMethod yX5_far ∈ lw_tg := lw_tg_in (tb_6 (List.mem_of_getElem? (i := 102) rfl)) rfl
theorem seX5_far : Cond.selects RX5 yX5_far yX5_far ∈ lw_tg := lw_tg_in (tb_6 (List.mem_of_getElem? (i := 103) rfl)) rfl
abbrev mX5_most : jv_M := (yX5_most, cX5_most, 3, some .int)
theorem okX5_most : jv_ok mX5_most 1 := ⟨lw_tg_in (tb_6 (List.mem_of_getElem? (i := 108) rfl)) rfl, lw_tg_in (tb_1 (List.mem_of_getElem? (i := 6) rfl)) rfl, ⟨by decide +kernel, by decide +kernel, by decide +kernel⟩, by decide +kernel, by decide⟩
theorem inX5_most : Cond.instanceMethod yX5_most ∈ lw_tg := lw_tg_in (tb_6 (List.mem_of_getElem? (i := 106) rfl)) rfl
theorem seX5_most : Cond.selects RX5 yX5_most yX5_most ∈ lw_tg := lw_tg_in (tb_6 (List.mem_of_getElem? (i := 107) rfl)) rfl
abbrev mX5_seekMost : jv_M := (yX5_seekMost, cX5_seekMost, 5, none)
theorem okX5_seekMost : jv_ok mX5_seekMost 3 := ⟨lw_tg_in (tb_6 (List.mem_of_getElem? (i := 112) rfl)) rfl, lw_tg_in (tb_1 (List.mem_of_getElem? (i := 6) rfl)) rfl, ⟨by decide +kernel, by decide +kernel, by decide +kernel⟩, by decide +kernel, by decide⟩
theorem inX5_seekMost : Cond.instanceMethod yX5_seekMost ∈ lw_tg := lw_tg_in (tb_6 (List.mem_of_getElem? (i := 111) rfl)) rfl
theorem seX5_seekMost : Cond.selects RX5 yX5_seekMost yX5_seekMost ∈ lw_tg := lw_tg_in (List.mem_of_getElem? (i := 63) (by decide +kernel)) rfl
abbrev mX5_always : jv_M := (yX5_always, cX5_always, 6, some .int)
theorem okX5_always : jv_ok mX5_always 1 := ⟨lw_tg_in (tb_6 (List.mem_of_getElem? (i := 116) rfl)) rfl, lw_tg_in (tb_1 (List.mem_of_getElem? (i := 6) rfl)) rfl, ⟨by decide +kernel, by decide +kernel, by decide +kernel⟩, by decide +kernel, by decide⟩
theorem inX5_always : Cond.instanceMethod yX5_always ∈ lw_tg := lw_tg_in (tb_6 (List.mem_of_getElem? (i := 114) rfl)) rfl
theorem seX5_always : Cond.selects RX5 yX5_always yX5_always ∈ lw_tg := lw_tg_in (tb_6 (List.mem_of_getElem? (i := 115) rfl)) rfl
abbrev mX5_often : jv_M := (yX5_often, cX5_often, 3, some .int)
theorem okX5_often : jv_ok mX5_often 2 := ⟨lw_tg_in (tb_6 (List.mem_of_getElem? (i := 120) rfl)) rfl, lw_tg_in (tb_1 (List.mem_of_getElem? (i := 6) rfl)) rfl, ⟨by decide +kernel, by decide +kernel, by decide +kernel⟩, by decide +kernel, by decide⟩
theorem inX5_often : Cond.instanceMethod yX5_often ∈ lw_tg := lw_tg_in (tb_6 (List.mem_of_getElem? (i := 118) rfl)) rfl
theorem seX5_often : Cond.selects RX5 yX5_often yX5_often ∈ lw_tg := lw_tg_in (tb_6 (List.mem_of_getElem? (i := 119) rfl)) rfl
abbrev mX5_oftenOf : jv_M := (yX5_oftenOf, cX5_oftenOf, 5, some .int)
theorem okX5_oftenOf : jv_ok mX5_oftenOf 2 := ⟨lw_tg_in (tb_6 (List.mem_of_getElem? (i := 124) rfl)) rfl, lw_tg_in (tb_1 (List.mem_of_getElem? (i := 6) rfl)) rfl, ⟨by decide +kernel, by decide +kernel, by decide +kernel⟩, by decide +kernel, by decide⟩
theorem inX5_oftenOf : Cond.instanceMethod yX5_oftenOf ∈ lw_tg := lw_tg_in (tb_6 (List.mem_of_getElem? (i := 123) rfl)) rfl
theorem seX5_oftenOf : Cond.selects RX5 yX5_oftenOf yX5_oftenOf ∈ lw_tg := lw_tg_in (List.mem_of_getElem? (i := 64) (by decide +kernel)) rfl
abbrev mX5_safe : jv_M := (yX5_safe, cX5_safe, 7, some .int)
theorem okX5_safe : jv_ok mX5_safe 2 := ⟨lw_tg_in (tb_6 (List.mem_of_getElem? (i := 128) rfl)) rfl, lw_tg_in (tb_1 (List.mem_of_getElem? (i := 6) rfl)) rfl, ⟨by decide +kernel, by decide +kernel, by decide +kernel⟩, by decide +kernel, by decide⟩
theorem inX5_safe : Cond.instanceMethod yX5_safe ∈ lw_tg := lw_tg_in (tb_6 (List.mem_of_getElem? (i := 126) rfl)) rfl
theorem seX5_safe : Cond.selects RX5 yX5_safe yX5_safe ∈ lw_tg := lw_tg_in (tb_6 (List.mem_of_getElem? (i := 127) rfl)) rfl
abbrev mX5_out : jv_M := (yX5_out, cX5_out, 3, some .int)
theorem okX5_out : jv_ok mX5_out 2 := ⟨lw_tg_in (tb_6 (List.mem_of_getElem? (i := 132) rfl)) rfl, lw_tg_in (tb_1 (List.mem_of_getElem? (i := 6) rfl)) rfl, ⟨by decide +kernel, by decide +kernel, by decide +kernel⟩, by decide +kernel, by decide⟩
theorem inX5_out : Cond.instanceMethod yX5_out ∈ lw_tg := lw_tg_in (tb_6 (List.mem_of_getElem? (i := 130) rfl)) rfl
theorem seX5_out : Cond.selects RX5 yX5_out yX5_out ∈ lw_tg := lw_tg_in (tb_6 (List.mem_of_getElem? (i := 131) rfl)) rfl
abbrev mX5_findOut : jv_M := (yX5_findOut, cX5_findOut, 5, none)
theorem okX5_findOut : jv_ok mX5_findOut 1 := ⟨lw_tg_in (tb_6 (List.mem_of_getElem? (i := 137) rfl)) rfl, lw_tg_in (tb_1 (List.mem_of_getElem? (i := 6) rfl)) rfl, ⟨by decide +kernel, by decide +kernel, by decide +kernel⟩, by decide +kernel, by decide⟩
theorem inX5_findOut : Cond.instanceMethod yX5_findOut ∈ lw_tg := lw_tg_in (tb_6 (List.mem_of_getElem? (i := 136) rfl)) rfl
theorem seX5_findOut : Cond.selects RX5 yX5_findOut yX5_findOut ∈ lw_tg := lw_tg_in (List.mem_of_getElem? (i := 65) (by decide +kernel)) rfl
abbrev mX5_outAt : jv_M := (yX5_outAt, cX5_outAt, 4, some .int)
theorem okX5_outAt : jv_ok mX5_outAt 2 := ⟨lw_tg_in (tb_6 (List.mem_of_getElem? (i := 141) rfl)) rfl, lw_tg_in (tb_1 (List.mem_of_getElem? (i := 6) rfl)) rfl, ⟨by decide +kernel, by decide +kernel, by decide +kernel⟩, by decide +kernel, by decide⟩
theorem inX5_outAt : Cond.instanceMethod yX5_outAt ∈ lw_tg := lw_tg_in (tb_6 (List.mem_of_getElem? (i := 139) rfl)) rfl
theorem seX5_outAt : Cond.selects RX5 yX5_outAt yX5_outAt ∈ lw_tg := lw_tg_in (tb_6 (List.mem_of_getElem? (i := 140) rfl)) rfl
abbrev mX5_stays : jv_M := (yX5_stays, cX5_stays, 3, some .int)
theorem okX5_stays : jv_ok mX5_stays 1 := ⟨lw_tg_in (tb_6 (List.mem_of_getElem? (i := 145) rfl)) rfl, lw_tg_in (tb_1 (List.mem_of_getElem? (i := 6) rfl)) rfl, ⟨by decide +kernel, by decide +kernel, by decide +kernel⟩, by decide +kernel, by decide⟩
theorem inX5_stays : Cond.instanceMethod yX5_stays ∈ lw_tg := lw_tg_in (tb_6 (List.mem_of_getElem? (i := 143) rfl)) rfl
theorem seX5_stays : Cond.selects RX5 yX5_stays yX5_stays ∈ lw_tg := lw_tg_in (tb_6 (List.mem_of_getElem? (i := 144) rfl)) rfl
abbrev mX5_fits : jv_M := (yX5_fits, cX5_fits, 5, some .int)
theorem okX5_fits : jv_ok mX5_fits 1 := ⟨lw_tg_in (tb_6 (List.mem_of_getElem? (i := 149) rfl)) rfl, lw_tg_in (tb_1 (List.mem_of_getElem? (i := 6) rfl)) rfl, ⟨by decide +kernel, by decide +kernel, by decide +kernel⟩, by decide +kernel, by decide⟩
theorem inX5_fits : Cond.instanceMethod yX5_fits ∈ lw_tg := lw_tg_in (tb_6 (List.mem_of_getElem? (i := 147) rfl)) rfl
theorem seX5_fits : Cond.selects RX5 yX5_fits yX5_fits ∈ lw_tg := lw_tg_in (tb_6 (List.mem_of_getElem? (i := 148) rfl)) rfl
abbrev mX5_noMorning : jv_M := (yX5_noMorning, cX5_noMorning, 3, some .int)
theorem okX5_noMorning : jv_ok mX5_noMorning 1 := ⟨lw_tg_in (tb_6 (List.mem_of_getElem? (i := 153) rfl)) rfl, lw_tg_in (tb_1 (List.mem_of_getElem? (i := 6) rfl)) rfl, ⟨by decide +kernel, by decide +kernel, by decide +kernel⟩, by decide +kernel, by decide⟩
theorem inX5_noMorning : Cond.instanceMethod yX5_noMorning ∈ lw_tg := lw_tg_in (tb_6 (List.mem_of_getElem? (i := 152) rfl)) rfl
theorem seX5_noMorning : Cond.selects RX5 yX5_noMorning yX5_noMorning ∈ lw_tg := lw_tg_in (List.mem_of_getElem? (i := 66) (by decide +kernel)) rfl
abbrev mX5_wrongTeams : jv_M := (yX5_wrongTeams, cX5_wrongTeams, 5, some .int)
theorem okX5_wrongTeams : jv_ok mX5_wrongTeams 2 := ⟨lw_tg_in (tb_6 (List.mem_of_getElem? (i := 157) rfl)) rfl, lw_tg_in (tb_1 (List.mem_of_getElem? (i := 6) rfl)) rfl, ⟨by decide +kernel, by decide +kernel, by decide +kernel⟩, by decide +kernel, by decide⟩
theorem inX5_wrongTeams : Cond.instanceMethod yX5_wrongTeams ∈ lw_tg := lw_tg_in (tb_6 (List.mem_of_getElem? (i := 156) rfl)) rfl
theorem seX5_wrongTeams : Cond.selects RX5 yX5_wrongTeams yX5_wrongTeams ∈ lw_tg := lw_tg_in (List.mem_of_getElem? (i := 67) (by decide +kernel)) rfl
abbrev mX5_moved : jv_M := (yX5_moved, cX5_moved, 7, some .int)
theorem okX5_moved : jv_ok mX5_moved 2 := ⟨lw_tg_in (tb_6 (List.mem_of_getElem? (i := 161) rfl)) rfl, lw_tg_in (tb_1 (List.mem_of_getElem? (i := 6) rfl)) rfl, ⟨by decide +kernel, by decide +kernel, by decide +kernel⟩, by decide +kernel, by decide⟩
theorem inX5_moved : Cond.instanceMethod yX5_moved ∈ lw_tg := lw_tg_in (tb_6 (List.mem_of_getElem? (i := 159) rfl)) rfl
theorem seX5_moved : Cond.selects RX5 yX5_moved yX5_moved ∈ lw_tg := lw_tg_in (tb_6 (List.mem_of_getElem? (i := 160) rfl)) rfl
abbrev mX5_miscounted : jv_M := (yX5_miscounted, cX5_miscounted, 6, some .int)
theorem okX5_miscounted : jv_ok mX5_miscounted 1 := ⟨lw_tg_in (tb_6 (List.mem_of_getElem? (i := 165) rfl)) rfl, lw_tg_in (tb_1 (List.mem_of_getElem? (i := 6) rfl)) rfl, ⟨by decide +kernel, by decide +kernel, by decide +kernel⟩, by decide +kernel, by decide⟩
theorem inX5_miscounted : Cond.instanceMethod yX5_miscounted ∈ lw_tg := lw_tg_in (tb_6 (List.mem_of_getElem? (i := 163) rfl)) rfl
theorem seX5_miscounted : Cond.selects RX5 yX5_miscounted yX5_miscounted ∈ lw_tg := lw_tg_in (tb_6 (List.mem_of_getElem? (i := 164) rfl)) rfl
abbrev mX5_judge : jv_M := (yX5_judge, cX5_judge, 4, some .int)
theorem okX5_judge : jv_ok mX5_judge 2 := ⟨lw_tg_in (tb_6 (List.mem_of_getElem? (i := 169) rfl)) rfl, lw_tg_in (tb_1 (List.mem_of_getElem? (i := 6) rfl)) rfl, ⟨by decide +kernel, by decide +kernel, by decide +kernel⟩, by decide +kernel, by decide⟩
theorem inX5_judge : Cond.instanceMethod yX5_judge ∈ lw_tg := lw_tg_in (tb_6 (List.mem_of_getElem? (i := 167) rfl)) rfl
theorem seX5_judge : Cond.selects RX5 yX5_judge yX5_judge ∈ lw_tg := lw_tg_in (tb_6 (List.mem_of_getElem? (i := 168) rfl)) rfl
abbrev mX5_noChanges : jv_M := (yX5_noChanges, cX5_noChanges, 4, some .int)
theorem okX5_noChanges : jv_ok mX5_noChanges 2 := ⟨lw_tg_in (tb_6 (List.mem_of_getElem? (i := 173) rfl)) rfl, lw_tg_in (tb_1 (List.mem_of_getElem? (i := 6) rfl)) rfl, ⟨by decide +kernel, by decide +kernel, by decide +kernel⟩, by decide +kernel, by decide⟩
theorem inX5_noChanges : Cond.instanceMethod yX5_noChanges ∈ lw_tg := lw_tg_in (tb_6 (List.mem_of_getElem? (i := 172) rfl)) rfl
theorem seX5_noChanges : Cond.selects RX5 yX5_noChanges yX5_noChanges ∈ lw_tg := lw_tg_in (List.mem_of_getElem? (i := 68) (by decide +kernel)) rfl
abbrev mX5_goesBy : jv_M := (yX5_goesBy, cX5_goesBy, 6, some .int)
theorem okX5_goesBy : jv_ok mX5_goesBy 2 := ⟨lw_tg_in (tb_6 (List.mem_of_getElem? (i := 177) rfl)) rfl, lw_tg_in (tb_1 (List.mem_of_getElem? (i := 6) rfl)) rfl, ⟨by decide +kernel, by decide +kernel, by decide +kernel⟩, by decide +kernel, by decide⟩
theorem inX5_goesBy : Cond.instanceMethod yX5_goesBy ∈ lw_tg := lw_tg_in (tb_6 (List.mem_of_getElem? (i := 176) rfl)) rfl
theorem seX5_goesBy : Cond.selects RX5 yX5_goesBy yX5_goesBy ∈ lw_tg := lw_tg_in (List.mem_of_getElem? (i := 69) (by decide +kernel)) rfl
abbrev mX5_behind : jv_M := (yX5_behind, cX5_behind, 6, some .int)
theorem okX5_behind : jv_ok mX5_behind 3 := ⟨lw_tg_in (tb_6 (List.mem_of_getElem? (i := 182) rfl)) rfl, lw_tg_in (tb_1 (List.mem_of_getElem? (i := 6) rfl)) rfl, ⟨by decide +kernel, by decide +kernel, by decide +kernel⟩, by decide +kernel, by decide⟩
theorem inX5_behind : Cond.instanceMethod yX5_behind ∈ lw_tg := lw_tg_in (tb_6 (List.mem_of_getElem? (i := 180) rfl)) rfl
theorem seX5_behind : Cond.selects RX5 yX5_behind yX5_behind ∈ lw_tg := lw_tg_in (tb_6 (List.mem_of_getElem? (i := 181) rfl)) rfl
abbrev mX5_done : jv_M := (yX5_done, cX5_done, 4, some .int)
theorem okX5_done : jv_ok mX5_done 2 := ⟨lw_tg_in (tb_6 (List.mem_of_getElem? (i := 186) rfl)) rfl, lw_tg_in (tb_1 (List.mem_of_getElem? (i := 6) rfl)) rfl, ⟨by decide +kernel, by decide +kernel, by decide +kernel⟩, by decide +kernel, by decide⟩
theorem inX5_done : Cond.instanceMethod yX5_done ∈ lw_tg := lw_tg_in (tb_6 (List.mem_of_getElem? (i := 184) rfl)) rfl
theorem seX5_done : Cond.selects RX5 yX5_done yX5_done ∈ lw_tg := lw_tg_in (tb_6 (List.mem_of_getElem? (i := 185) rfl)) rfl
abbrev mX5_swap : jv_M := (yX5_swap, cX5_swap, 3, some .int)
theorem okX5_swap : jv_ok mX5_swap 2 := ⟨lw_tg_in (tb_6 (List.mem_of_getElem? (i := 190) rfl)) rfl, lw_tg_in (tb_1 (List.mem_of_getElem? (i := 6) rfl)) rfl, ⟨by decide +kernel, by decide +kernel, by decide +kernel⟩, by decide +kernel, by decide⟩
theorem inX5_swap : Cond.instanceMethod yX5_swap ∈ lw_tg := lw_tg_in (tb_6 (List.mem_of_getElem? (i := 188) rfl)) rfl
theorem seX5_swap : Cond.selects RX5 yX5_swap yX5_swap ∈ lw_tg := lw_tg_in (tb_6 (List.mem_of_getElem? (i := 189) rfl)) rfl
abbrev mX5_move : jv_M := (yX5_move, cX5_move, 4, some .int)
theorem okX5_move : jv_ok mX5_move 2 := ⟨lw_tg_in (tb_6 (List.mem_of_getElem? (i := 194) rfl)) rfl, lw_tg_in (tb_1 (List.mem_of_getElem? (i := 6) rfl)) rfl, ⟨by decide +kernel, by decide +kernel, by decide +kernel⟩, by decide +kernel, by decide⟩
theorem inX5_move : Cond.instanceMethod yX5_move ∈ lw_tg := lw_tg_in (tb_6 (List.mem_of_getElem? (i := 192) rfl)) rfl
theorem seX5_move : Cond.selects RX5 yX5_move yX5_move ∈ lw_tg := lw_tg_in (tb_6 (List.mem_of_getElem? (i := 193) rfl)) rfl
abbrev mX5_turn : jv_M := (yX5_turn, cX5_turn, 1, some .int)
theorem okX5_turn : jv_ok mX5_turn 0 := ⟨lw_tg_in (tb_6 (List.mem_of_getElem? (i := 198) rfl)) rfl, lw_tg_in (tb_1 (List.mem_of_getElem? (i := 6) rfl)) rfl, ⟨by decide +kernel, by decide +kernel, by decide +kernel⟩, by decide +kernel, by decide⟩
theorem inX5_turn : Cond.instanceMethod yX5_turn ∈ lw_tg := lw_tg_in (tb_6 (List.mem_of_getElem? (i := 196) rfl)) rfl
theorem seX5_turn : Cond.selects RX5 yX5_turn yX5_turn ∈ lw_tg := lw_tg_in (tb_6 (List.mem_of_getElem? (i := 197) rfl)) rfl
abbrev mX5_leaves : jv_M := (yX5_leaves, cX5_leaves, 3, some .int)
theorem okX5_leaves : jv_ok mX5_leaves 0 := ⟨lw_tg_in (tb_6 (List.mem_of_getElem? (i := 202) rfl)) rfl, lw_tg_in (tb_1 (List.mem_of_getElem? (i := 6) rfl)) rfl, ⟨by decide +kernel, by decide +kernel, by decide +kernel⟩, by decide +kernel, by decide⟩
theorem inX5_leaves : Cond.instanceMethod yX5_leaves ∈ lw_tg := lw_tg_in (tb_6 (List.mem_of_getElem? (i := 200) rfl)) rfl
theorem seX5_leaves : Cond.selects RX5 yX5_leaves yX5_leaves ∈ lw_tg := lw_tg_in (tb_6 (List.mem_of_getElem? (i := 201) rfl)) rfl
abbrev mX5_term : jv_M := (yX5_term, cX5_term, 5, some .int)
theorem okX5_term : jv_ok mX5_term 1 := ⟨lw_tg_in (tb_6 (List.mem_of_getElem? (i := 206) rfl)) rfl, lw_tg_in (tb_1 (List.mem_of_getElem? (i := 6) rfl)) rfl, ⟨by decide +kernel, by decide +kernel, by decide +kernel⟩, by decide +kernel, by decide⟩
theorem inX5_term : Cond.instanceMethod yX5_term ∈ lw_tg := lw_tg_in (tb_6 (List.mem_of_getElem? (i := 204) rfl)) rfl
theorem seX5_term : Cond.selects RX5 yX5_term yX5_term ∈ lw_tg := lw_tg_in (tb_6 (List.mem_of_getElem? (i := 205) rfl)) rfl
abbrev mX5_below : jv_M := (yX5_below, cX5_below, 2, some .int)
theorem okX5_below : jv_ok mX5_below 1 := ⟨lw_tg_in (tb_6 (List.mem_of_getElem? (i := 211) rfl)) rfl, lw_tg_in (tb_1 (List.mem_of_getElem? (i := 6) rfl)) rfl, ⟨by decide +kernel, by decide +kernel, by decide +kernel⟩, by decide +kernel, by decide⟩
theorem inX5_below : Cond.instanceMethod yX5_below ∈ lw_tg := lw_tg_in (tb_6 (List.mem_of_getElem? (i := 210) rfl)) rfl
theorem seX5_below : Cond.selects RX5 yX5_below yX5_below ∈ lw_tg := lw_tg_in (List.mem_of_getElem? (i := 70) (by decide +kernel)) rfl
abbrev mX5_seed : jv_M := (yX5_seed, cX5_seed, 3, some .int)
theorem okX5_seed : jv_ok mX5_seed 1 := ⟨lw_tg_in (tb_6 (List.mem_of_getElem? (i := 216) rfl)) rfl, lw_tg_in (tb_1 (List.mem_of_getElem? (i := 6) rfl)) rfl, ⟨by decide +kernel, by decide +kernel, by decide +kernel⟩, by decide +kernel, by decide⟩
theorem inX5_seed : Cond.instanceMethod yX5_seed ∈ lw_tg := lw_tg_in (tb_6 (List.mem_of_getElem? (i := 214) rfl)) rfl
theorem seX5_seed : Cond.selects RX5 yX5_seed yX5_seed ∈ lw_tg := lw_tg_in (tb_6 (List.mem_of_getElem? (i := 215) rfl)) rfl
abbrev mX5_image : jv_M := (yX5_image, cX5_image, 1, some .int)
theorem okX5_image : jv_ok mX5_image 0 := ⟨lw_tg_in (tb_6 (List.mem_of_getElem? (i := 220) rfl)) rfl, lw_tg_in (tb_1 (List.mem_of_getElem? (i := 6) rfl)) rfl, ⟨by decide +kernel, by decide +kernel, by decide +kernel⟩, by decide +kernel, by decide⟩
theorem inX5_image : Cond.instanceMethod yX5_image ∈ lw_tg := lw_tg_in (tb_6 (List.mem_of_getElem? (i := 218) rfl)) rfl
theorem seX5_image : Cond.selects RX5 yX5_image yX5_image ∈ lw_tg := lw_tg_in (tb_6 (List.mem_of_getElem? (i := 219) rfl)) rfl
abbrev mX5_back : jv_M := (yX5_back, cX5_back, 2, some .int)
theorem okX5_back : jv_ok mX5_back 0 := ⟨lw_tg_in (tb_6 (List.mem_of_getElem? (i := 224) rfl)) rfl, lw_tg_in (tb_1 (List.mem_of_getElem? (i := 6) rfl)) rfl, ⟨by decide +kernel, by decide +kernel, by decide +kernel⟩, by decide +kernel, by decide⟩
theorem inX5_back : Cond.instanceMethod yX5_back ∈ lw_tg := lw_tg_in (tb_6 (List.mem_of_getElem? (i := 222) rfl)) rfl
theorem seX5_back : Cond.selects RX5 yX5_back yX5_back ∈ lw_tg := lw_tg_in (tb_6 (List.mem_of_getElem? (i := 223) rfl)) rfl
abbrev mX5_status : jv_M := (yX5_status, cX5_status, 4, some .int)
theorem okX5_status : jv_ok mX5_status 1 := ⟨lw_tg_in (tb_6 (List.mem_of_getElem? (i := 228) rfl)) rfl, lw_tg_in (tb_1 (List.mem_of_getElem? (i := 6) rfl)) rfl, ⟨by decide +kernel, by decide +kernel, by decide +kernel⟩, by decide +kernel, by decide⟩
theorem inX5_status : Cond.instanceMethod yX5_status ∈ lw_tg := lw_tg_in (tb_6 (List.mem_of_getElem? (i := 226) rfl)) rfl
theorem seX5_status : Cond.selects RX5 yX5_status yX5_status ∈ lw_tg := lw_tg_in (tb_6 (List.mem_of_getElem? (i := 227) rfl)) rfl
theorem mlL_9 : Cond.methodLink RL 9 yX4_init ∈ lw_tg := lw_tg_in (tb_1 (List.mem_of_getElem? (i := 15) rfl)) rfl
theorem mlX4_1 : Cond.methodLink RX4 1 Lib.objectInit ∈ lw_tg := lw_tg_in (tb_1 (List.mem_of_getElem? (i := 18) rfl)) rfl
theorem mlX3_3 : Cond.methodLink RX3 3 Lib.objectInit ∈ lw_tg := lw_tg_in (tb_1 (List.mem_of_getElem? (i := 26) rfl)) rfl
theorem mlX4_24 : Cond.methodLink RX4 24 yX0_init ∈ lw_tg := lw_tg_in (tb_1 (List.mem_of_getElem? (i := 102) rfl)) rfl
theorem mlX0_3 : Cond.methodLink RX0 3 Lib.objectInit ∈ lw_tg := lw_tg_in (tb_1 (List.mem_of_getElem? (i := 105) rfl)) rfl
theorem mlX2_3 : Cond.methodLink RX2 3 Lib.objectInit ∈ lw_tg := lw_tg_in (tb_1 (List.mem_of_getElem? (i := 131) rfl)) rfl
theorem mlX1_3 : Cond.methodLink RX1 3 Lib.objectInit ∈ lw_tg := lw_tg_in (tb_1 (List.mem_of_getElem? (i := 155) rfl)) rfl
theorem mlL_13 : Cond.methodLink RL 13 yX4_row ∈ lw_tg := lw_tg_in (tb_1 (List.mem_of_getElem? (i := 195) rfl)) rfl
theorem mlX4_53 : Cond.methodLink RX4 53 yX4_isShelf ∈ lw_tg := lw_tg_in (tb_1 (List.mem_of_getElem? (i := 199) rfl)) rfl
theorem mlX4_57 : Cond.methodLink RX4 57 yX4_within ∈ lw_tg := lw_tg_in (tb_1 (List.mem_of_getElem? (i := 202) rfl)) rfl
theorem mlX4_61 : Cond.methodLink RX4 61 yX4_refuse ∈ lw_tg := lw_tg_in (tb_1 (List.mem_of_getElem? (i := 205) rfl)) rfl
theorem mlX4_65 : Cond.methodLink RX4 65 yX1_takeRow ∈ lw_tg := lw_tg_in (tb_1 (List.mem_of_getElem? (i := 209) rfl)) rfl
theorem mlL_20 : Cond.methodLink RL 20 yX4_set ∈ lw_tg := lw_tg_in (tb_1 (List.mem_of_getElem? (i := 213) rfl)) rfl
theorem mlX4_69 : Cond.methodLink RX4 69 yX4_rowTrouble ∈ lw_tg := lw_tg_in (tb_1 (List.mem_of_getElem? (i := 217) rfl)) rfl
theorem mlX4_301 : Cond.methodLink RX4 301 yX1_isCount ∈ lw_tg := lw_tg_in (tb_1 (List.mem_of_getElem? (i := 221) rfl)) rfl
theorem mlX4_111 : Cond.methodLink RX4 111 yX1_isRow ∈ lw_tg := lw_tg_in (tb_1 (List.mem_of_getElem? (i := 225) rfl)) rfl
theorem mlX4_72 : Cond.methodLink RX4 72 yX1_hasElement ∈ lw_tg := lw_tg_in (tb_1 (List.mem_of_getElem? (i := 230) rfl)) rfl
theorem mlX4_75 : Cond.methodLink RX4 75 yX1_put ∈ lw_tg := lw_tg_in (tb_1 (List.mem_of_getElem? (i := 234) rfl)) rfl
theorem mlL_25 : Cond.methodLink RL 25 yX4_copy ∈ lw_tg := lw_tg_in (tb_1 (List.mem_of_getElem? (i := 238) rfl)) rfl
theorem mlX4_79 : Cond.methodLink RX4 79 yX4_copyTrouble ∈ lw_tg := lw_tg_in (tb_2 (List.mem_of_getElem? (i := 2) rfl)) rfl
theorem mlX4_83 : Cond.methodLink RX4 83 yX1_hasStretch ∈ lw_tg := lw_tg_in (tb_2 (List.mem_of_getElem? (i := 6) rfl)) rfl
theorem mlX4_91 : Cond.methodLink RX4 91 arraycopyName ∈ lw_tg := lw_tg_in (tb_2 (List.mem_of_getElem? (i := 10) rfl)) rfl
theorem mlL_30 : Cond.methodLink RL 30 yX4_element ∈ lw_tg := lw_tg_in (tb_2 (List.mem_of_getElem? (i := 13) rfl)) rfl
theorem mlL_35 : Cond.methodLink RL 35 yX4_holds ∈ lw_tg := lw_tg_in (tb_2 (List.mem_of_getElem? (i := 17) rfl)) rfl
theorem mlL_40 : Cond.methodLink RL 40 yX4_show ∈ lw_tg := lw_tg_in (tb_2 (List.mem_of_getElem? (i := 21) rfl)) rfl
theorem mlX4_101 : Cond.methodLink RX4 101 yX3_hasCount ∈ lw_tg := lw_tg_in (tb_2 (List.mem_of_getElem? (i := 25) rfl)) rfl
theorem mlX4_104 : Cond.methodLink RX4 104 yX1_takeNothing ∈ lw_tg := lw_tg_in (tb_2 (List.mem_of_getElem? (i := 30) rfl)) rfl
theorem mlX4_107 : Cond.methodLink RX4 107 yX1_takeCount ∈ lw_tg := lw_tg_in (tb_2 (List.mem_of_getElem? (i := 34) rfl)) rfl
theorem mlL_45 : Cond.methodLink RL 45 yX4_says ∈ lw_tg := lw_tg_in (tb_2 (List.mem_of_getElem? (i := 38) rfl)) rfl
theorem mlX4_115 : Cond.methodLink RX4 115 yX1_countNumber ∈ lw_tg := lw_tg_in (tb_2 (List.mem_of_getElem? (i := 42) rfl)) rfl
theorem mlX1_26 : Cond.methodLink RX1 26 yX1_isCount ∈ lw_tg := lw_tg_in (tb_2 (List.mem_of_getElem? (i := 46) rfl)) rfl
theorem mlX4_122 : Cond.methodLink RX4 122 yX4_isOfKind ∈ lw_tg := lw_tg_in (tb_2 (List.mem_of_getElem? (i := 47) rfl)) rfl
theorem mlX4_125 : Cond.methodLink RX4 125 yX4_saying ∈ lw_tg := lw_tg_in (tb_2 (List.mem_of_getElem? (i := 52) rfl)) rfl
theorem mlX4_323 : Cond.methodLink RX4 323 yX3_sideAt ∈ lw_tg := lw_tg_in (tb_2 (List.mem_of_getElem? (i := 56) rfl)) rfl
theorem mlX3_98 : Cond.methodLink RX3 98 yX3_evenPlaces ∈ lw_tg := lw_tg_in (tb_2 (List.mem_of_getElem? (i := 60) rfl)) rfl
theorem mlX4_326 : Cond.methodLink RX4 326 yX3_evenPlaces ∈ lw_tg := lw_tg_in (tb_2 (List.mem_of_getElem? (i := 64) rfl)) rfl
theorem mlL_49 : Cond.methodLink RL 49 yX4_child ∈ lw_tg := lw_tg_in (tb_2 (List.mem_of_getElem? (i := 65) rfl)) rfl
theorem mlX4_131 : Cond.methodLink RX4 131 yX3_addChild ∈ lw_tg := lw_tg_in (tb_2 (List.mem_of_getElem? (i := 69) rfl)) rfl
theorem mlL_53 : Cond.methodLink RL 53 yX4_count ∈ lw_tg := lw_tg_in (tb_2 (List.mem_of_getElem? (i := 73) rfl)) rfl
theorem mlX4_137 : Cond.methodLink RX4 137 yX3_addCount ∈ lw_tg := lw_tg_in (tb_2 (List.mem_of_getElem? (i := 77) rfl)) rfl
theorem mlL_57 : Cond.methodLink RL 57 yX4_wish ∈ lw_tg := lw_tg_in (tb_2 (List.mem_of_getElem? (i := 81) rfl)) rfl
theorem mlX4_141 : Cond.methodLink RX4 141 yX4_areTwo ∈ lw_tg := lw_tg_in (tb_2 (List.mem_of_getElem? (i := 85) rfl)) rfl
theorem mlX4_166 : Cond.methodLink RX4 166 yX3_hasChild ∈ lw_tg := lw_tg_in (tb_2 (List.mem_of_getElem? (i := 89) rfl)) rfl
theorem mlX4_147 : Cond.methodLink RX4 147 yX3_addWish ∈ lw_tg := lw_tg_in (tb_2 (List.mem_of_getElem? (i := 93) rfl)) rfl
theorem mlL_62 : Cond.methodLink RL 62 yX4_content ∈ lw_tg := lw_tg_in (tb_2 (List.mem_of_getElem? (i := 97) rfl)) rfl
theorem mlL_67 : Cond.methodLink RL 67 yX4_feed ∈ lw_tg := lw_tg_in (tb_2 (List.mem_of_getElem? (i := 101) rfl)) rfl
theorem mlX4_154 : Cond.methodLink RX4 154 yX2_put ∈ lw_tg := lw_tg_in (tb_2 (List.mem_of_getElem? (i := 105) rfl)) rfl
theorem mlL_71 : Cond.methodLink RL 71 yX4_wipe ∈ lw_tg := lw_tg_in (tb_2 (List.mem_of_getElem? (i := 109) rfl)) rfl
theorem mlX4_156 : Cond.methodLink RX4 156 yX2_clear ∈ lw_tg := lw_tg_in (tb_2 (List.mem_of_getElem? (i := 113) rfl)) rfl
theorem mlL_75 : Cond.methodLink RL 75 yX4_yard ∈ lw_tg := lw_tg_in (tb_2 (List.mem_of_getElem? (i := 117) rfl)) rfl
theorem mlX4_159 : Cond.methodLink RX4 159 yX3_takeOver ∈ lw_tg := lw_tg_in (tb_2 (List.mem_of_getElem? (i := 121) rfl)) rfl
theorem mlX3_58 : Cond.methodLink RX3 58 arraycopyName ∈ lw_tg := lw_tg_in (tb_2 (List.mem_of_getElem? (i := 125) rfl)) rfl
theorem mlX4_162 : Cond.methodLink RX4 162 yX2_readOnto ∈ lw_tg := lw_tg_in (tb_2 (List.mem_of_getElem? (i := 126) rfl)) rfl
theorem mlX2_28 : Cond.methodLink RX2 28 yX2_readStatement ∈ lw_tg := lw_tg_in (tb_2 (List.mem_of_getElem? (i := 130) rfl)) rfl
theorem mlX2_32 : Cond.methodLink RX2 32 yX2_nextToken ∈ lw_tg := lw_tg_in (tb_2 (List.mem_of_getElem? (i := 134) rfl)) rfl
theorem mlX2_35 : Cond.methodLink RX2 35 yX2_tokenOf ∈ lw_tg := lw_tg_in (tb_2 (List.mem_of_getElem? (i := 138) rfl)) rfl
theorem mlX2_55 : Cond.methodLink RX2 55 yX2_isWord ∈ lw_tg := lw_tg_in (tb_2 (List.mem_of_getElem? (i := 142) rfl)) rfl
theorem mlX2_39 : Cond.methodLink RX2 39 yJ0_length_8abf5 ∈ lw_tg := lw_tg_in (tb_2 (List.mem_of_getElem? (i := 146) rfl)) rfl
theorem mlJ0_335 : Cond.methodLink RJ0 335 yJ0_coder_7d493 ∈ lw_tg := lw_tg_in (tb_2 (List.mem_of_getElem? (i := 150) rfl)) rfl
theorem mlX2_45 : Cond.methodLink RX2 45 yJ0_charAt_5068e ∈ lw_tg := lw_tg_in (tb_2 (List.mem_of_getElem? (i := 156) rfl)) rfl
theorem mlJ0_492 : Cond.methodLink RJ0 492 yJ0_isLatin1_aae02 ∈ lw_tg := lw_tg_in (tb_2 (List.mem_of_getElem? (i := 160) rfl)) rfl
theorem mlJ0_495 : Cond.methodLink RJ0 495 yJ1_charAt_3b067 ∈ lw_tg := lw_tg_in (tb_2 (List.mem_of_getElem? (i := 164) rfl)) rfl
theorem mlJ1_9 : Cond.methodLink RJ1 9 yJ0_checkIndex_df160 ∈ lw_tg := lw_tg_in (tb_2 (List.mem_of_getElem? (i := 167) rfl)) rfl
theorem mlJ0_1059 : Cond.methodLink RJ0 1059 yJ3_checkIndex_8e157 ∈ lw_tg := lw_tg_in (tb_2 (List.mem_of_getElem? (i := 172) rfl)) rfl
theorem mlJ0_498 : Cond.methodLink RJ0 498 yJ2_charAt_3b067 ∈ lw_tg := lw_tg_in (tb_2 (List.mem_of_getElem? (i := 175) rfl)) rfl
theorem mlJ2_67 : Cond.methodLink RJ2 67 yJ2_checkIndex_2214a ∈ lw_tg := lw_tg_in (tb_2 (List.mem_of_getElem? (i := 178) rfl)) rfl
theorem mlJ2_48 : Cond.methodLink RJ2 48 yJ2_length_9d52b ∈ lw_tg := lw_tg_in (tb_2 (List.mem_of_getElem? (i := 181) rfl)) rfl
theorem mlJ2_414 : Cond.methodLink RJ2 414 yJ0_checkIndex_df160 ∈ lw_tg := lw_tg_in (tb_2 (List.mem_of_getElem? (i := 184) rfl)) rfl
theorem mlJ2_71 : Cond.methodLink RJ2 71 yJ2_getChar_3b067 ∈ lw_tg := lw_tg_in (tb_2 (List.mem_of_getElem? (i := 185) rfl)) rfl
theorem mlX2_64 : Cond.methodLink RX2 64 yX2_readChild ∈ lw_tg := lw_tg_in (tb_2 (List.mem_of_getElem? (i := 194) rfl)) rfl
theorem mlX2_96 : Cond.methodLink RX2 96 yX2_nextNumber ∈ lw_tg := lw_tg_in (tb_2 (List.mem_of_getElem? (i := 198) rfl)) rfl
theorem mlX2_100 : Cond.methodLink RX2 100 yX3_addChild ∈ lw_tg := lw_tg_in (tb_2 (List.mem_of_getElem? (i := 203) rfl)) rfl
theorem mlX2_72 : Cond.methodLink RX2 72 yX2_readCount ∈ lw_tg := lw_tg_in (tb_2 (List.mem_of_getElem? (i := 205) rfl)) rfl
theorem mlX2_103 : Cond.methodLink RX2 103 yX3_addCount ∈ lw_tg := lw_tg_in (tb_2 (List.mem_of_getElem? (i := 209) rfl)) rfl
theorem mlX2_80 : Cond.methodLink RX2 80 yX2_readWish ∈ lw_tg := lw_tg_in (tb_2 (List.mem_of_getElem? (i := 211) rfl)) rfl
theorem mlX2_107 : Cond.methodLink RX2 107 yX3_addWish ∈ lw_tg := lw_tg_in (tb_2 (List.mem_of_getElem? (i := 215) rfl)) rfl
theorem mlX2_88 : Cond.methodLink RX2 88 yX2_readSwap ∈ lw_tg := lw_tg_in (tb_2 (List.mem_of_getElem? (i := 218) rfl)) rfl
theorem mlX2_111 : Cond.methodLink RX2 111 yX3_exchange ∈ lw_tg := lw_tg_in (tb_2 (List.mem_of_getElem? (i := 222) rfl)) rfl
theorem mlX3_72 : Cond.methodLink RX3 72 yX3_stand ∈ lw_tg := lw_tg_in (tb_2 (List.mem_of_getElem? (i := 226) rfl)) rfl
theorem mlX2_93 : Cond.methodLink RX2 93 yX2_readMove ∈ lw_tg := lw_tg_in (tb_2 (List.mem_of_getElem? (i := 231) rfl)) rfl
theorem mlX2_115 : Cond.methodLink RX2 115 yX3_shift ∈ lw_tg := lw_tg_in (tb_2 (List.mem_of_getElem? (i := 235) rfl)) rfl
theorem mlL_79 : Cond.methodLink RL 79 yX4_childOf ∈ lw_tg := lw_tg_in (tb_3 (List.mem_of_getElem? (i := 0) rfl)) rfl
theorem mlX4_178 : Cond.methodLink RX4 178 yX3_wishesOf ∈ lw_tg := lw_tg_in (tb_3 (List.mem_of_getElem? (i := 4) rfl)) rfl
theorem mlL_83 : Cond.methodLink RL 83 yX4_countOf ∈ lw_tg := lw_tg_in (tb_3 (List.mem_of_getElem? (i := 8) rfl)) rfl
theorem mlL_87 : Cond.methodLink RL 87 yX4_wishOf ∈ lw_tg := lw_tg_in (tb_3 (List.mem_of_getElem? (i := 12) rfl)) rfl
theorem mlX4_187 : Cond.methodLink RX4 187 yX3_hasWish ∈ lw_tg := lw_tg_in (tb_3 (List.mem_of_getElem? (i := 16) rfl)) rfl
theorem mlL_91 : Cond.methodLink RL 91 yX4_at ∈ lw_tg := lw_tg_in (tb_3 (List.mem_of_getElem? (i := 20) rfl)) rfl
theorem mlX4_202 : Cond.methodLink RX4 202 yX3_hasPlace ∈ lw_tg := lw_tg_in (tb_3 (List.mem_of_getElem? (i := 24) rfl)) rfl
theorem mlL_95 : Cond.methodLink RL 95 yX4_team ∈ lw_tg := lw_tg_in (tb_3 (List.mem_of_getElem? (i := 28) rfl)) rfl
theorem mlX4_208 : Cond.methodLink RX4 208 yX3_sideOf ∈ lw_tg := lw_tg_in (tb_3 (List.mem_of_getElem? (i := 32) rfl)) rfl
theorem mlX3_102 : Cond.methodLink RX3 102 yX3_sideAt ∈ lw_tg := lw_tg_in (tb_3 (List.mem_of_getElem? (i := 36) rfl)) rfl
theorem mlL_99 : Cond.methodLink RL 99 yX4_members ∈ lw_tg := lw_tg_in (tb_3 (List.mem_of_getElem? (i := 37) rfl)) rfl
theorem mlX4_211 : Cond.methodLink RX4 211 yX3_hasTeam ∈ lw_tg := lw_tg_in (tb_3 (List.mem_of_getElem? (i := 41) rfl)) rfl
theorem mlX3_68 : Cond.methodLink RX3 68 yX3_hasCount ∈ lw_tg := lw_tg_in (tb_3 (List.mem_of_getElem? (i := 45) rfl)) rfl
theorem mlX4_214 : Cond.methodLink RX4 214 yX3_bitsOfSide ∈ lw_tg := lw_tg_in (tb_3 (List.mem_of_getElem? (i := 46) rfl)) rfl
theorem mlX3_112 : Cond.methodLink RX3 112 yX3_sideOf ∈ lw_tg := lw_tg_in (tb_3 (List.mem_of_getElem? (i := 50) rfl)) rfl
theorem mlL_103 : Cond.methodLink RL 103 yX4_strength ∈ lw_tg := lw_tg_in (tb_3 (List.mem_of_getElem? (i := 51) rfl)) rfl
theorem mlX4_217 : Cond.methodLink RX4 217 yX3_strongOfSide ∈ lw_tg := lw_tg_in (tb_3 (List.mem_of_getElem? (i := 55) rfl)) rfl
theorem mlL_107 : Cond.methodLink RL 107 yX4_heaviest ∈ lw_tg := lw_tg_in (tb_3 (List.mem_of_getElem? (i := 59) rfl)) rfl
theorem mlL_111 : Cond.methodLink RL 111 yX4_turned ∈ lw_tg := lw_tg_in (tb_3 (List.mem_of_getElem? (i := 63) rfl)) rfl
theorem mlX4_220 : Cond.methodLink RX4 220 yX3_turnAbout ∈ lw_tg := lw_tg_in (tb_3 (List.mem_of_getElem? (i := 67) rfl)) rfl
theorem mlX3_76 : Cond.methodLink RX3 76 yX3_exchange ∈ lw_tg := lw_tg_in (tb_3 (List.mem_of_getElem? (i := 71) rfl)) rfl
theorem mlX4_223 : Cond.methodLink RX4 223 yX3_valueBy ∈ lw_tg := lw_tg_in (tb_3 (List.mem_of_getElem? (i := 72) rfl)) rfl
theorem mlX3_106 : Cond.methodLink RX3 106 yX3_isMet ∈ lw_tg := lw_tg_in (tb_3 (List.mem_of_getElem? (i := 76) rfl)) rfl
theorem mlL_115 : Cond.methodLink RL 115 yX4_unlike ∈ lw_tg := lw_tg_in (tb_3 (List.mem_of_getElem? (i := 80) rfl)) rfl
theorem mlL_119 : Cond.methodLink RL 119 yX4_unmet ∈ lw_tg := lw_tg_in (tb_3 (List.mem_of_getElem? (i := 84) rfl)) rfl
theorem mlX4_226 : Cond.methodLink RX4 226 yX3_isMet ∈ lw_tg := lw_tg_in (tb_3 (List.mem_of_getElem? (i := 88) rfl)) rfl
theorem mlL_123 : Cond.methodLink RL 123 yX4_friendsOf ∈ lw_tg := lw_tg_in (tb_3 (List.mem_of_getElem? (i := 89) rfl)) rfl
theorem mlX4_229 : Cond.methodLink RX4 229 yX3_hangingWith ∈ lw_tg := lw_tg_in (tb_3 (List.mem_of_getElem? (i := 93) rfl)) rfl
theorem mlL_127 : Cond.methodLink RL 127 yX4_groups ∈ lw_tg := lw_tg_in (tb_3 (List.mem_of_getElem? (i := 97) rfl)) rfl
theorem mlL_131 : Cond.methodLink RL 131 yX4_conflict ∈ lw_tg := lw_tg_in (tb_3 (List.mem_of_getElem? (i := 101) rfl)) rfl
theorem mlL_135 : Cond.methodLink RL 135 yX4_changes ∈ lw_tg := lw_tg_in (tb_3 (List.mem_of_getElem? (i := 105) rfl)) rfl
theorem mlX4_232 : Cond.methodLink RX4 232 yX0_fewestChanges ∈ lw_tg := lw_tg_in (tb_3 (List.mem_of_getElem? (i := 109) rfl)) rfl
theorem mlX0_64 : Cond.methodLink RX0 64 yX0_takeSides ∈ lw_tg := lw_tg_in (tb_3 (List.mem_of_getElem? (i := 113) rfl)) rfl
theorem mlX0_37 : Cond.methodLink RX0 37 yX3_sideOf ∈ lw_tg := lw_tg_in (tb_3 (List.mem_of_getElem? (i := 117) rfl)) rfl
theorem mlX0_60 : Cond.methodLink RX0 60 yX0_valueOfSides ∈ lw_tg := lw_tg_in (tb_3 (List.mem_of_getElem? (i := 118) rfl)) rfl
theorem mlX0_75 : Cond.methodLink RX0 75 yX3_allWorths ∈ lw_tg := lw_tg_in (tb_3 (List.mem_of_getElem? (i := 122) rfl)) rfl
theorem mlX0_78 : Cond.methodLink RX0 78 yX0_oneChangeReaches ∈ lw_tg := lw_tg_in (tb_3 (List.mem_of_getElem? (i := 126) rfl)) rfl
theorem mlX0_72 : Cond.methodLink RX0 72 yX0_valueWithChange ∈ lw_tg := lw_tg_in (tb_3 (List.mem_of_getElem? (i := 130) rfl)) rfl
theorem mlX0_56 : Cond.methodLink RX0 56 yX0_exchangeSides ∈ lw_tg := lw_tg_in (tb_3 (List.mem_of_getElem? (i := 134) rfl)) rfl
theorem mlX0_82 : Cond.methodLink RX0 82 yX0_twoChangesReach ∈ lw_tg := lw_tg_in (tb_3 (List.mem_of_getElem? (i := 138) rfl)) rfl
theorem mlL_139 : Cond.methodLink RL 139 yX4_place ∈ lw_tg := lw_tg_in (tb_3 (List.mem_of_getElem? (i := 142) rfl)) rfl
theorem mlX4_235 : Cond.methodLink RX4 235 yX0_bestPlace ∈ lw_tg := lw_tg_in (tb_3 (List.mem_of_getElem? (i := 146) rfl)) rfl
theorem mlX0_96 : Cond.methodLink RX0 96 yX3_shift ∈ lw_tg := lw_tg_in (tb_3 (List.mem_of_getElem? (i := 150) rfl)) rfl
theorem mlX0_99 : Cond.methodLink RX0 99 yX3_valueByAll ∈ lw_tg := lw_tg_in (tb_3 (List.mem_of_getElem? (i := 151) rfl)) rfl
theorem mlX3_109 : Cond.methodLink RX3 109 yX3_valueBy ∈ lw_tg := lw_tg_in (tb_3 (List.mem_of_getElem? (i := 155) rfl)) rfl
theorem mlL_143 : Cond.methodLink RL 143 yX4_value ∈ lw_tg := lw_tg_in (tb_3 (List.mem_of_getElem? (i := 156) rfl)) rfl
theorem mlL_147 : Cond.methodLink RL 147 yX4_met ∈ lw_tg := lw_tg_in (tb_3 (List.mem_of_getElem? (i := 160) rfl)) rfl
theorem mlL_151 : Cond.methodLink RL 151 yX4_best ∈ lw_tg := lw_tg_in (tb_3 (List.mem_of_getElem? (i := 164) rfl)) rfl
theorem mlX4_238 : Cond.methodLink RX4 238 yX4_merit ∈ lw_tg := lw_tg_in (tb_3 (List.mem_of_getElem? (i := 168) rfl)) rfl
theorem mlX4_241 : Cond.methodLink RX4 241 yX3_unevenness ∈ lw_tg := lw_tg_in (tb_3 (List.mem_of_getElem? (i := 172) rfl)) rfl
theorem mlX3_115 : Cond.methodLink RX3 115 yX3_strongOfSide ∈ lw_tg := lw_tg_in (tb_3 (List.mem_of_getElem? (i := 176) rfl)) rfl
theorem mlX3_118 : Cond.methodLink RX3 118 Lib.Math.max.name ∈ lw_tg := lw_tg_in (tb_3 (List.mem_of_getElem? (i := 177) rfl)) rfl
theorem mlX3_121 : Cond.methodLink RX3 121 Lib.Math.min.name ∈ lw_tg := lw_tg_in (tb_3 (List.mem_of_getElem? (i := 180) rfl)) rfl
theorem mlL_155 : Cond.methodLink RL 155 yX4_even ∈ lw_tg := lw_tg_in (tb_3 (List.mem_of_getElem? (i := 183) rfl)) rfl
theorem mlL_159 : Cond.methodLink RL 159 yX4_change ∈ lw_tg := lw_tg_in (tb_3 (List.mem_of_getElem? (i := 187) rfl)) rfl
theorem mlX4_244 : Cond.methodLink RX4 244 yX0_bestChange ∈ lw_tg := lw_tg_in (tb_3 (List.mem_of_getElem? (i := 191) rfl)) rfl
theorem mlX0_68 : Cond.methodLink RX0 68 yX3_inReach ∈ lw_tg := lw_tg_in (tb_3 (List.mem_of_getElem? (i := 195) rfl)) rfl
theorem mlX3_82 : Cond.methodLink RX3 82 Lib.Math.abs.name ∈ lw_tg := lw_tg_in (tb_3 (List.mem_of_getElem? (i := 199) rfl)) rfl
theorem mlL_163 : Cond.methodLink RL 163 yX4_far ∈ lw_tg := lw_tg_in (tb_3 (List.mem_of_getElem? (i := 202) rfl)) rfl
theorem mlX4_247 : Cond.methodLink RX4 247 yX0_shortestMove ∈ lw_tg := lw_tg_in (tb_3 (List.mem_of_getElem? (i := 206) rfl)) rfl
theorem mlX0_105 : Cond.methodLink RX0 105 yX0_shortestMoveOf ∈ lw_tg := lw_tg_in (tb_3 (List.mem_of_getElem? (i := 210) rfl)) rfl
theorem mlX0_117 : Cond.methodLink RX0 117 Lib.Math.abs.name ∈ lw_tg := lw_tg_in (tb_3 (List.mem_of_getElem? (i := 214) rfl)) rfl
theorem mlX0_121 : Cond.methodLink RX0 121 yX3_sameSide ∈ lw_tg := lw_tg_in (tb_3 (List.mem_of_getElem? (i := 215) rfl)) rfl
theorem mlX0_109 : Cond.methodLink RX0 109 Lib.Math.max.name ∈ lw_tg := lw_tg_in (tb_3 (List.mem_of_getElem? (i := 219) rfl)) rfl
theorem mlX0_114 : Cond.methodLink RX0 114 Lib.Math.min.name ∈ lw_tg := lw_tg_in (tb_3 (List.mem_of_getElem? (i := 220) rfl)) rfl
theorem mlL_167 : Cond.methodLink RL 167 yX4_most ∈ lw_tg := lw_tg_in (tb_3 (List.mem_of_getElem? (i := 221) rfl)) rfl
theorem mlX4_250 : Cond.methodLink RX4 250 yX0_greatestValue ∈ lw_tg := lw_tg_in (tb_3 (List.mem_of_getElem? (i := 225) rfl)) rfl
theorem mlX0_124 : Cond.methodLink RX0 124 yX3_sideAt ∈ lw_tg := lw_tg_in (tb_3 (List.mem_of_getElem? (i := 229) rfl)) rfl
theorem mlX0_127 : Cond.methodLink RX0 127 yX0_greatestFrom ∈ lw_tg := lw_tg_in (tb_3 (List.mem_of_getElem? (i := 230) rfl)) rfl
theorem mlX0_130 : Cond.methodLink RX0 130 yX0_isLikeOneAhead ∈ lw_tg := lw_tg_in (tb_3 (List.mem_of_getElem? (i := 234) rfl)) rfl
theorem mlL_171 : Cond.methodLink RL 171 yX4_always ∈ lw_tg := lw_tg_in (tb_3 (List.mem_of_getElem? (i := 238) rfl)) rfl
theorem mlX4_253 : Cond.methodLink RX4 253 yX3_timesTogether ∈ lw_tg := lw_tg_in (tb_4 (List.mem_of_getElem? (i := 2) rfl)) rfl
theorem mlX3_124 : Cond.methodLink RX3 124 yX3_sameSide ∈ lw_tg := lw_tg_in (tb_4 (List.mem_of_getElem? (i := 6) rfl)) rfl
theorem mlL_175 : Cond.methodLink RL 175 yX4_often ∈ lw_tg := lw_tg_in (tb_4 (List.mem_of_getElem? (i := 7) rfl)) rfl
theorem mlL_179 : Cond.methodLink RL 179 yX4_safe ∈ lw_tg := lw_tg_in (tb_4 (List.mem_of_getElem? (i := 11) rfl)) rfl
theorem mlX4_256 : Cond.methodLink RX4 256 yX0_safestPlace ∈ lw_tg := lw_tg_in (tb_4 (List.mem_of_getElem? (i := 15) rfl)) rfl
theorem mlX0_102 : Cond.methodLink RX0 102 yX3_timesTogether ∈ lw_tg := lw_tg_in (tb_4 (List.mem_of_getElem? (i := 19) rfl)) rfl
theorem mlL_183 : Cond.methodLink RL 183 yX4_out ∈ lw_tg := lw_tg_in (tb_4 (List.mem_of_getElem? (i := 20) rfl)) rfl
theorem mlX4_259 : Cond.methodLink RX4 259 yX0_countOut ∈ lw_tg := lw_tg_in (tb_4 (List.mem_of_getElem? (i := 24) rfl)) rfl
theorem mlX0_136 : Cond.methodLink RX0 136 arraycopyName ∈ lw_tg := lw_tg_in (tb_4 (List.mem_of_getElem? (i := 28) rfl)) rfl
theorem mlL_187 : Cond.methodLink RL 187 yX4_outAt ∈ lw_tg := lw_tg_in (tb_4 (List.mem_of_getElem? (i := 29) rfl)) rfl
theorem mlL_191 : Cond.methodLink RL 191 yX4_stays ∈ lw_tg := lw_tg_in (tb_4 (List.mem_of_getElem? (i := 33) rfl)) rfl
theorem mlL_195 : Cond.methodLink RL 195 yX4_fits ∈ lw_tg := lw_tg_in (tb_4 (List.mem_of_getElem? (i := 37) rfl)) rfl
theorem mlX4_265 : Cond.methodLink RX4 265 yX4_toldTrouble ∈ lw_tg := lw_tg_in (tb_4 (List.mem_of_getElem? (i := 41) rfl)) rfl
theorem mlX4_268 : Cond.methodLink RX4 268 yX3_unlikeTold ∈ lw_tg := lw_tg_in (tb_4 (List.mem_of_getElem? (i := 45) rfl)) rfl
theorem mlL_199 : Cond.methodLink RL 199 yX4_moved ∈ lw_tg := lw_tg_in (tb_4 (List.mem_of_getElem? (i := 49) rfl)) rfl
theorem mlX4_272 : Cond.methodLink RX4 272 yX0_firstChangeToFit ∈ lw_tg := lw_tg_in (tb_4 (List.mem_of_getElem? (i := 53) rfl)) rfl
theorem mlX0_86 : Cond.methodLink RX0 86 yX3_exchange ∈ lw_tg := lw_tg_in (tb_4 (List.mem_of_getElem? (i := 57) rfl)) rfl
theorem mlX0_89 : Cond.methodLink RX0 89 yX3_unlikeTold ∈ lw_tg := lw_tg_in (tb_4 (List.mem_of_getElem? (i := 58) rfl)) rfl
theorem mlL_203 : Cond.methodLink RL 203 yX4_miscounted ∈ lw_tg := lw_tg_in (tb_4 (List.mem_of_getElem? (i := 59) rfl)) rfl
theorem mlX4_275 : Cond.methodLink RX4 275 Lib.Math.min.name ∈ lw_tg := lw_tg_in (tb_4 (List.mem_of_getElem? (i := 63) rfl)) rfl
theorem mlL_207 : Cond.methodLink RL 207 yX4_judge ∈ lw_tg := lw_tg_in (tb_4 (List.mem_of_getElem? (i := 64) rfl)) rfl
theorem mlX4_280 : Cond.methodLink RX4 280 yX4_firstWrong ∈ lw_tg := lw_tg_in (tb_4 (List.mem_of_getElem? (i := 68) rfl)) rfl
theorem mlX4_319 : Cond.methodLink RX4 319 yX3_changeAsTold ∈ lw_tg := lw_tg_in (tb_4 (List.mem_of_getElem? (i := 72) rfl)) rfl
theorem mlX3_90 : Cond.methodLink RX3 90 yX3_hasChild ∈ lw_tg := lw_tg_in (tb_4 (List.mem_of_getElem? (i := 77) rfl)) rfl
theorem mlX3_93 : Cond.methodLink RX3 93 yX3_inReach ∈ lw_tg := lw_tg_in (tb_4 (List.mem_of_getElem? (i := 78) rfl)) rfl
theorem mlL_211 : Cond.methodLink RL 211 yX4_behind ∈ lw_tg := lw_tg_in (tb_4 (List.mem_of_getElem? (i := 79) rfl)) rfl
theorem mlL_215 : Cond.methodLink RL 215 yX4_done ∈ lw_tg := lw_tg_in (tb_4 (List.mem_of_getElem? (i := 83) rfl)) rfl
theorem mlL_219 : Cond.methodLink RL 219 yX4_swap ∈ lw_tg := lw_tg_in (tb_4 (List.mem_of_getElem? (i := 87) rfl)) rfl
theorem mlX4_283 : Cond.methodLink RX4 283 yX3_inReach ∈ lw_tg := lw_tg_in (tb_4 (List.mem_of_getElem? (i := 91) rfl)) rfl
theorem mlX4_286 : Cond.methodLink RX4 286 yX3_exchange ∈ lw_tg := lw_tg_in (tb_4 (List.mem_of_getElem? (i := 92) rfl)) rfl
theorem mlL_223 : Cond.methodLink RL 223 yX4_move ∈ lw_tg := lw_tg_in (tb_4 (List.mem_of_getElem? (i := 93) rfl)) rfl
theorem mlX4_289 : Cond.methodLink RX4 289 yX3_shift ∈ lw_tg := lw_tg_in (tb_4 (List.mem_of_getElem? (i := 97) rfl)) rfl
theorem mlL_227 : Cond.methodLink RL 227 yX4_turn ∈ lw_tg := lw_tg_in (tb_4 (List.mem_of_getElem? (i := 98) rfl)) rfl
theorem mlL_231 : Cond.methodLink RL 231 yX4_leaves ∈ lw_tg := lw_tg_in (tb_4 (List.mem_of_getElem? (i := 102) rfl)) rfl
theorem mlX4_292 : Cond.methodLink RX4 292 yX3_dropLast ∈ lw_tg := lw_tg_in (tb_4 (List.mem_of_getElem? (i := 106) rfl)) rfl
theorem mlX3_79 : Cond.methodLink RX3 79 yX3_shift ∈ lw_tg := lw_tg_in (tb_4 (List.mem_of_getElem? (i := 110) rfl)) rfl
theorem mlL_235 : Cond.methodLink RL 235 yX4_term ∈ lw_tg := lw_tg_in (tb_4 (List.mem_of_getElem? (i := 111) rfl)) rfl
theorem mlX4_295 : Cond.methodLink RX4 295 yX3_draw ∈ lw_tg := lw_tg_in (tb_4 (List.mem_of_getElem? (i := 115) rfl)) rfl
theorem mlL_239 : Cond.methodLink RL 239 yX4_seed ∈ lw_tg := lw_tg_in (tb_4 (List.mem_of_getElem? (i := 120) rfl)) rfl
theorem mlL_243 : Cond.methodLink RL 243 yX4_image ∈ lw_tg := lw_tg_in (tb_4 (List.mem_of_getElem? (i := 124) rfl)) rfl
theorem mlL_247 : Cond.methodLink RL 247 yX4_back ∈ lw_tg := lw_tg_in (tb_4 (List.mem_of_getElem? (i := 128) rfl)) rfl
theorem mlL_251 : Cond.methodLink RL 251 yX4_status ∈ lw_tg := lw_tg_in (tb_4 (List.mem_of_getElem? (i := 132) rfl)) rfl
theorem mlX4_304 : Cond.methodLink RX4 304 yX3_allWorths ∈ lw_tg := lw_tg_in (tb_4 (List.mem_of_getElem? (i := 136) rfl)) rfl
theorem mlX4_307 : Cond.methodLink RX4 307 yX3_allStrong ∈ lw_tg := lw_tg_in (tb_4 (List.mem_of_getElem? (i := 137) rfl)) rfl
theorem mlX4_310 : Cond.methodLink RX4 310 yX4_shelvesInUse ∈ lw_tg := lw_tg_in (tb_4 (List.mem_of_getElem? (i := 141) rfl)) rfl
theorem mlL_12 : Cond.methodLink RL 12 yX5_init ∈ lw_tg := lw_tg_in (tb_4 (List.mem_of_getElem? (i := 147) rfl)) rfl
theorem mlX5_1 : Cond.methodLink RX5 1 Lib.objectInit ∈ lw_tg := lw_tg_in (tb_4 (List.mem_of_getElem? (i := 150) rfl)) rfl
theorem mlL_17 : Cond.methodLink RL 17 yX5_row ∈ lw_tg := lw_tg_in (tb_5 (List.mem_of_getElem? (i := 19) rfl)) rfl
theorem mlX5_83 : Cond.methodLink RX5 83 yX5_in ∈ lw_tg := lw_tg_in (tb_5 (List.mem_of_getElem? (i := 24) rfl)) rfl
theorem mlX5_104 : Cond.methodLink RX5 104 yX5_refuse ∈ lw_tg := lw_tg_in (tb_5 (List.mem_of_getElem? (i := 29) rfl)) rfl
theorem mlL_24 : Cond.methodLink RL 24 yX5_set ∈ lw_tg := lw_tg_in (tb_5 (List.mem_of_getElem? (i := 33) rfl)) rfl
theorem mlX5_108 : Cond.methodLink RX5 108 yX5_noRow ∈ lw_tg := lw_tg_in (tb_5 (List.mem_of_getElem? (i := 37) rfl)) rfl
theorem mlX5_111 : Cond.methodLink RX5 111 yX5_fit ∈ lw_tg := lw_tg_in (tb_5 (List.mem_of_getElem? (i := 41) rfl)) rfl
theorem mlL_29 : Cond.methodLink RL 29 yX5_copy ∈ lw_tg := lw_tg_in (tb_5 (List.mem_of_getElem? (i := 44) rfl)) rfl
theorem mlL_34 : Cond.methodLink RL 34 yX5_element ∈ lw_tg := lw_tg_in (tb_5 (List.mem_of_getElem? (i := 48) rfl)) rfl
theorem mlL_39 : Cond.methodLink RL 39 yX5_holds ∈ lw_tg := lw_tg_in (tb_5 (List.mem_of_getElem? (i := 52) rfl)) rfl
theorem mlL_44 : Cond.methodLink RL 44 yX5_show ∈ lw_tg := lw_tg_in (tb_5 (List.mem_of_getElem? (i := 56) rfl)) rfl
theorem mlX5_94 : Cond.methodLink RX5 94 yX5_isCount ∈ lw_tg := lw_tg_in (tb_5 (List.mem_of_getElem? (i := 60) rfl)) rfl
theorem mlL_48 : Cond.methodLink RL 48 yX5_says ∈ lw_tg := lw_tg_in (tb_5 (List.mem_of_getElem? (i := 64) rfl)) rfl
theorem mlX5_117 : Cond.methodLink RX5 117 yX5_isUnder ∈ lw_tg := lw_tg_in (tb_5 (List.mem_of_getElem? (i := 69) rfl)) rfl
theorem mlX5_121 : Cond.methodLink RX5 121 yX5_teamAt ∈ lw_tg := lw_tg_in (tb_5 (List.mem_of_getElem? (i := 72) rfl)) rfl
theorem mlX5_257 : Cond.methodLink RX5 257 yX5_slipped ∈ lw_tg := lw_tg_in (tb_5 (List.mem_of_getElem? (i := 76) rfl)) rfl
theorem mlL_52 : Cond.methodLink RL 52 yX5_child ∈ lw_tg := lw_tg_in (tb_5 (List.mem_of_getElem? (i := 80) rfl)) rfl
theorem mlX5_129 : Cond.methodLink RX5 129 yX5_addChild ∈ lw_tg := lw_tg_in (tb_5 (List.mem_of_getElem? (i := 86) rfl)) rfl
theorem mlL_56 : Cond.methodLink RL 56 yX5_count ∈ lw_tg := lw_tg_in (tb_5 (List.mem_of_getElem? (i := 90) rfl)) rfl
theorem mlX5_137 : Cond.methodLink RX5 137 yX5_addCount ∈ lw_tg := lw_tg_in (tb_5 (List.mem_of_getElem? (i := 96) rfl)) rfl
theorem mlL_61 : Cond.methodLink RL 61 yX5_wish ∈ lw_tg := lw_tg_in (tb_5 (List.mem_of_getElem? (i := 100) rfl)) rfl
theorem mlX5_144 : Cond.methodLink RX5 144 yX5_areTwo ∈ lw_tg := lw_tg_in (tb_5 (List.mem_of_getElem? (i := 104) rfl)) rfl
theorem mlX5_87 : Cond.methodLink RX5 87 yX5_isChild ∈ lw_tg := lw_tg_in (tb_5 (List.mem_of_getElem? (i := 108) rfl)) rfl
theorem mlX5_148 : Cond.methodLink RX5 148 yX5_addWish ∈ lw_tg := lw_tg_in (tb_5 (List.mem_of_getElem? (i := 112) rfl)) rfl
theorem mlL_66 : Cond.methodLink RL 66 yX5_content ∈ lw_tg := lw_tg_in (tb_5 (List.mem_of_getElem? (i := 116) rfl)) rfl
theorem mlL_70 : Cond.methodLink RL 70 yX5_feed ∈ lw_tg := lw_tg_in (tb_5 (List.mem_of_getElem? (i := 120) rfl)) rfl
theorem mlL_74 : Cond.methodLink RL 74 yX5_wipe ∈ lw_tg := lw_tg_in (tb_5 (List.mem_of_getElem? (i := 125) rfl)) rfl
theorem mlL_78 : Cond.methodLink RL 78 yX5_yard ∈ lw_tg := lw_tg_in (tb_5 (List.mem_of_getElem? (i := 129) rfl)) rfl
theorem mlX5_245 : Cond.methodLink RX5 245 yX5_fresh ∈ lw_tg := lw_tg_in (tb_5 (List.mem_of_getElem? (i := 133) rfl)) rfl
theorem mlX5_240 : Cond.methodLink RX5 240 yX5_init ∈ lw_tg := lw_tg_in (tb_5 (List.mem_of_getElem? (i := 138) rfl)) rfl
theorem mlX5_241 : Cond.methodLink RX5 241 yX5_takeFrom ∈ lw_tg := lw_tg_in (tb_5 (List.mem_of_getElem? (i := 139) rfl)) rfl
theorem mlX5_335 : Cond.methodLink RX5 335 yX5_copied ∈ lw_tg := lw_tg_in (tb_5 (List.mem_of_getElem? (i := 143) rfl)) rfl
theorem mlX5_249 : Cond.methodLink RX5 249 yX5_readAll ∈ lw_tg := lw_tg_in (tb_5 (List.mem_of_getElem? (i := 146) rfl)) rfl
theorem mlX5_192 : Cond.methodLink RX5 192 yX5_look ∈ lw_tg := lw_tg_in (tb_5 (List.mem_of_getElem? (i := 150) rfl)) rfl
theorem mlX5_169 : Cond.methodLink RX5 169 yX5_isLetter ∈ lw_tg := lw_tg_in (tb_5 (List.mem_of_getElem? (i := 154) rfl)) rfl
theorem mlX5_172 : Cond.methodLink RX5 172 yX5_isDigit ∈ lw_tg := lw_tg_in (tb_5 (List.mem_of_getElem? (i := 157) rfl)) rfl
theorem mlX5_233 : Cond.methodLink RX5 233 yX5_statement ∈ lw_tg := lw_tg_in (tb_5 (List.mem_of_getElem? (i := 160) rfl)) rfl
theorem mlX5_207 : Cond.methodLink RX5 207 yX5_isWord ∈ lw_tg := lw_tg_in (tb_5 (List.mem_of_getElem? (i := 165) rfl)) rfl
theorem mlX5_178 : Cond.methodLink RX5 178 yJ0_length_8abf5 ∈ lw_tg := lw_tg_in (tb_5 (List.mem_of_getElem? (i := 169) rfl)) rfl
theorem mlX5_184 : Cond.methodLink RX5 184 yJ0_charAt_5068e ∈ lw_tg := lw_tg_in (tb_5 (List.mem_of_getElem? (i := 170) rfl)) rfl
theorem mlX5_199 : Cond.methodLink RX5 199 yX5_tells ∈ lw_tg := lw_tg_in (tb_5 (List.mem_of_getElem? (i := 171) rfl)) rfl
theorem mlX5_195 : Cond.methodLink RX5 195 yX5_number ∈ lw_tg := lw_tg_in (tb_5 (List.mem_of_getElem? (i := 175) rfl)) rfl
theorem mlX5_188 : Cond.methodLink RX5 188 yX5_wrong ∈ lw_tg := lw_tg_in (tb_5 (List.mem_of_getElem? (i := 179) rfl)) rfl
theorem mlX5_215 : Cond.methodLink RX5 215 yX5_wishTold ∈ lw_tg := lw_tg_in (tb_5 (List.mem_of_getElem? (i := 185) rfl)) rfl
theorem mlX5_202 : Cond.methodLink RX5 202 yX5_twoTold ∈ lw_tg := lw_tg_in (tb_5 (List.mem_of_getElem? (i := 189) rfl)) rfl
theorem mlX5_222 : Cond.methodLink RX5 222 yX5_swaps ∈ lw_tg := lw_tg_in (tb_5 (List.mem_of_getElem? (i := 195) rfl)) rfl
theorem mlX5_227 : Cond.methodLink RX5 227 yX5_moves ∈ lw_tg := lw_tg_in (tb_5 (List.mem_of_getElem? (i := 200) rfl)) rfl
theorem mlL_82 : Cond.methodLink RL 82 yX5_childOf ∈ lw_tg := lw_tg_in (tb_5 (List.mem_of_getElem? (i := 204) rfl)) rfl
theorem mlL_86 : Cond.methodLink RL 86 yX5_countOf ∈ lw_tg := lw_tg_in (tb_5 (List.mem_of_getElem? (i := 209) rfl)) rfl
theorem mlL_90 : Cond.methodLink RL 90 yX5_wishOf ∈ lw_tg := lw_tg_in (tb_5 (List.mem_of_getElem? (i := 213) rfl)) rfl
theorem mlL_94 : Cond.methodLink RL 94 yX5_at ∈ lw_tg := lw_tg_in (tb_5 (List.mem_of_getElem? (i := 217) rfl)) rfl
theorem mlX5_254 : Cond.methodLink RX5 254 yX5_standing ∈ lw_tg := lw_tg_in (tb_5 (List.mem_of_getElem? (i := 221) rfl)) rfl
theorem mlL_98 : Cond.methodLink RL 98 yX5_team ∈ lw_tg := lw_tg_in (tb_5 (List.mem_of_getElem? (i := 225) rfl)) rfl
theorem mlX5_260 : Cond.methodLink RX5 260 yX5_teamOf ∈ lw_tg := lw_tg_in (tb_5 (List.mem_of_getElem? (i := 229) rfl)) rfl
theorem mlL_102 : Cond.methodLink RL 102 yX5_members ∈ lw_tg := lw_tg_in (tb_5 (List.mem_of_getElem? (i := 233) rfl)) rfl
theorem mlX5_269 : Cond.methodLink RX5 269 yX5_isTeam ∈ lw_tg := lw_tg_in (tb_5 (List.mem_of_getElem? (i := 237) rfl)) rfl
theorem mlL_106 : Cond.methodLink RL 106 yX5_strength ∈ lw_tg := lw_tg_in (tb_6 (List.mem_of_getElem? (i := 1) rfl)) rfl
theorem mlX5_272 : Cond.methodLink RX5 272 yX5_strengthOf ∈ lw_tg := lw_tg_in (tb_6 (List.mem_of_getElem? (i := 5) rfl)) rfl
theorem mlL_110 : Cond.methodLink RL 110 yX5_heaviest ∈ lw_tg := lw_tg_in (tb_6 (List.mem_of_getElem? (i := 9) rfl)) rfl
theorem mlL_114 : Cond.methodLink RL 114 yX5_turned ∈ lw_tg := lw_tg_in (tb_6 (List.mem_of_getElem? (i := 13) rfl)) rfl
theorem mlX5_275 : Cond.methodLink RX5 275 yX5_turns ∈ lw_tg := lw_tg_in (tb_6 (List.mem_of_getElem? (i := 17) rfl)) rfl
theorem mlX5_278 : Cond.methodLink RX5 278 yX5_valueOf ∈ lw_tg := lw_tg_in (tb_6 (List.mem_of_getElem? (i := 21) rfl)) rfl
theorem mlX5_266 : Cond.methodLink RX5 266 yX5_isMet ∈ lw_tg := lw_tg_in (tb_6 (List.mem_of_getElem? (i := 25) rfl)) rfl
theorem mlX5_263 : Cond.methodLink RX5 263 yX5_areIn ∈ lw_tg := lw_tg_in (tb_6 (List.mem_of_getElem? (i := 29) rfl)) rfl
theorem mlL_118 : Cond.methodLink RL 118 yX5_unlike ∈ lw_tg := lw_tg_in (tb_6 (List.mem_of_getElem? (i := 33) rfl)) rfl
theorem mlL_122 : Cond.methodLink RL 122 yX5_unmet ∈ lw_tg := lw_tg_in (tb_6 (List.mem_of_getElem? (i := 37) rfl)) rfl
theorem mlL_126 : Cond.methodLink RL 126 yX5_friendsOf ∈ lw_tg := lw_tg_in (tb_6 (List.mem_of_getElem? (i := 41) rfl)) rfl
theorem mlX5_284 : Cond.methodLink RX5 284 yX5_friends ∈ lw_tg := lw_tg_in (tb_6 (List.mem_of_getElem? (i := 45) rfl)) rfl
theorem mlX5_281 : Cond.methodLink RX5 281 yX5_has ∈ lw_tg := lw_tg_in (tb_6 (List.mem_of_getElem? (i := 49) rfl)) rfl
theorem mlL_130 : Cond.methodLink RL 130 yX5_groups ∈ lw_tg := lw_tg_in (tb_6 (List.mem_of_getElem? (i := 52) rfl)) rfl
theorem mlL_134 : Cond.methodLink RL 134 yX5_conflict ∈ lw_tg := lw_tg_in (tb_6 (List.mem_of_getElem? (i := 56) rfl)) rfl
theorem mlL_146 : Cond.methodLink RL 146 yX5_value ∈ lw_tg := lw_tg_in (tb_6 (List.mem_of_getElem? (i := 60) rfl)) rfl
theorem mlL_150 : Cond.methodLink RL 150 yX5_met ∈ lw_tg := lw_tg_in (tb_6 (List.mem_of_getElem? (i := 64) rfl)) rfl
theorem mlL_158 : Cond.methodLink RL 158 yX5_even ∈ lw_tg := lw_tg_in (tb_6 (List.mem_of_getElem? (i := 68) rfl)) rfl
theorem mlX5_287 : Cond.methodLink RX5 287 yX5_evenOf ∈ lw_tg := lw_tg_in (tb_6 (List.mem_of_getElem? (i := 72) rfl)) rfl
theorem mlL_154 : Cond.methodLink RL 154 yX5_best ∈ lw_tg := lw_tg_in (tb_6 (List.mem_of_getElem? (i := 76) rfl)) rfl
theorem mlL_162 : Cond.methodLink RL 162 yX5_change ∈ lw_tg := lw_tg_in (tb_6 (List.mem_of_getElem? (i := 80) rfl)) rfl
theorem mlX5_290 : Cond.methodLink RX5 290 yX5_mayChange ∈ lw_tg := lw_tg_in (tb_6 (List.mem_of_getElem? (i := 84) rfl)) rfl
theorem mlL_138 : Cond.methodLink RL 138 yX5_changes ∈ lw_tg := lw_tg_in (tb_6 (List.mem_of_getElem? (i := 88) rfl)) rfl
theorem mlX5_293 : Cond.methodLink RX5 293 yX5_canBeBy ∈ lw_tg := lw_tg_in (tb_6 (List.mem_of_getElem? (i := 93) rfl)) rfl
theorem mlL_142 : Cond.methodLink RL 142 yX5_place ∈ lw_tg := lw_tg_in (tb_6 (List.mem_of_getElem? (i := 97) rfl)) rfl
theorem mlL_166 : Cond.methodLink RL 166 yX5_far ∈ lw_tg := lw_tg_in (tb_6 (List.mem_of_getElem? (i := 101) rfl)) rfl
theorem mlL_170 : Cond.methodLink RL 170 yX5_most ∈ lw_tg := lw_tg_in (tb_6 (List.mem_of_getElem? (i := 105) rfl)) rfl
theorem mlX5_301 : Cond.methodLink RX5 301 yX5_seekMost ∈ lw_tg := lw_tg_in (tb_6 (List.mem_of_getElem? (i := 109) rfl)) rfl
theorem mlL_174 : Cond.methodLink RL 174 yX5_always ∈ lw_tg := lw_tg_in (tb_6 (List.mem_of_getElem? (i := 113) rfl)) rfl
theorem mlL_178 : Cond.methodLink RL 178 yX5_often ∈ lw_tg := lw_tg_in (tb_6 (List.mem_of_getElem? (i := 117) rfl)) rfl
theorem mlX5_304 : Cond.methodLink RX5 304 yX5_oftenOf ∈ lw_tg := lw_tg_in (tb_6 (List.mem_of_getElem? (i := 121) rfl)) rfl
theorem mlL_182 : Cond.methodLink RL 182 yX5_safe ∈ lw_tg := lw_tg_in (tb_6 (List.mem_of_getElem? (i := 125) rfl)) rfl
theorem mlL_186 : Cond.methodLink RL 186 yX5_out ∈ lw_tg := lw_tg_in (tb_6 (List.mem_of_getElem? (i := 129) rfl)) rfl
theorem mlX5_309 : Cond.methodLink RX5 309 yX5_findOut ∈ lw_tg := lw_tg_in (tb_6 (List.mem_of_getElem? (i := 134) rfl)) rfl
theorem mlL_190 : Cond.methodLink RL 190 yX5_outAt ∈ lw_tg := lw_tg_in (tb_6 (List.mem_of_getElem? (i := 138) rfl)) rfl
theorem mlL_194 : Cond.methodLink RL 194 yX5_stays ∈ lw_tg := lw_tg_in (tb_6 (List.mem_of_getElem? (i := 142) rfl)) rfl
theorem mlL_198 : Cond.methodLink RL 198 yX5_fits ∈ lw_tg := lw_tg_in (tb_6 (List.mem_of_getElem? (i := 146) rfl)) rfl
theorem mlX5_313 : Cond.methodLink RX5 313 yX5_noMorning ∈ lw_tg := lw_tg_in (tb_6 (List.mem_of_getElem? (i := 150) rfl)) rfl
theorem mlX5_316 : Cond.methodLink RX5 316 yX5_wrongTeams ∈ lw_tg := lw_tg_in (tb_6 (List.mem_of_getElem? (i := 154) rfl)) rfl
theorem mlL_202 : Cond.methodLink RL 202 yX5_moved ∈ lw_tg := lw_tg_in (tb_6 (List.mem_of_getElem? (i := 158) rfl)) rfl
theorem mlL_206 : Cond.methodLink RL 206 yX5_miscounted ∈ lw_tg := lw_tg_in (tb_6 (List.mem_of_getElem? (i := 162) rfl)) rfl
theorem mlL_210 : Cond.methodLink RL 210 yX5_judge ∈ lw_tg := lw_tg_in (tb_6 (List.mem_of_getElem? (i := 166) rfl)) rfl
theorem mlX5_322 : Cond.methodLink RX5 322 yX5_noChanges ∈ lw_tg := lw_tg_in (tb_6 (List.mem_of_getElem? (i := 170) rfl)) rfl
theorem mlX5_325 : Cond.methodLink RX5 325 yX5_goesBy ∈ lw_tg := lw_tg_in (tb_6 (List.mem_of_getElem? (i := 174) rfl)) rfl
theorem mlL_214 : Cond.methodLink RL 214 yX5_behind ∈ lw_tg := lw_tg_in (tb_6 (List.mem_of_getElem? (i := 179) rfl)) rfl
theorem mlL_218 : Cond.methodLink RL 218 yX5_done ∈ lw_tg := lw_tg_in (tb_6 (List.mem_of_getElem? (i := 183) rfl)) rfl
theorem mlL_222 : Cond.methodLink RL 222 yX5_swap ∈ lw_tg := lw_tg_in (tb_6 (List.mem_of_getElem? (i := 187) rfl)) rfl
theorem mlL_226 : Cond.methodLink RL 226 yX5_move ∈ lw_tg := lw_tg_in (tb_6 (List.mem_of_getElem? (i := 191) rfl)) rfl
theorem mlL_230 : Cond.methodLink RL 230 yX5_turn ∈ lw_tg := lw_tg_in (tb_6 (List.mem_of_getElem? (i := 195) rfl)) rfl
theorem mlL_234 : Cond.methodLink RL 234 yX5_leaves ∈ lw_tg := lw_tg_in (tb_6 (List.mem_of_getElem? (i := 199) rfl)) rfl
theorem mlL_238 : Cond.methodLink RL 238 yX5_term ∈ lw_tg := lw_tg_in (tb_6 (List.mem_of_getElem? (i := 203) rfl)) rfl
theorem mlX5_332 : Cond.methodLink RX5 332 yX5_below ∈ lw_tg := lw_tg_in (tb_6 (List.mem_of_getElem? (i := 208) rfl)) rfl
theorem mlL_242 : Cond.methodLink RL 242 yX5_seed ∈ lw_tg := lw_tg_in (tb_6 (List.mem_of_getElem? (i := 213) rfl)) rfl
theorem mlL_246 : Cond.methodLink RL 246 yX5_image ∈ lw_tg := lw_tg_in (tb_6 (List.mem_of_getElem? (i := 217) rfl)) rfl
theorem mlL_250 : Cond.methodLink RL 250 yX5_back ∈ lw_tg := lw_tg_in (tb_6 (List.mem_of_getElem? (i := 221) rfl)) rfl
theorem mlL_254 : Cond.methodLink RL 254 yX5_status ∈ lw_tg := lw_tg_in (tb_6 (List.mem_of_getElem? (i := 225) rfl)) rfl
theorem lyX0 : ∀ k, k < 6 → u_lay RX0 TX0 k ∈ lw_tg := by
  intro k hk
  match k, hk with
  | 0, _ => exact lw_tg_in (tb_1 (List.mem_of_getElem? (i := 113) rfl)) rfl
  | 1, _ => exact lw_tg_in (tb_1 (List.mem_of_getElem? (i := 115) rfl)) rfl
  | 2, _ => exact lw_tg_in (tb_1 (List.mem_of_getElem? (i := 117) rfl)) rfl
  | 3, _ => exact lw_tg_in (tb_1 (List.mem_of_getElem? (i := 119) rfl)) rfl
  | 4, _ => exact lw_tg_in (tb_1 (List.mem_of_getElem? (i := 121) rfl)) rfl
  | 5, _ => exact lw_tg_in (tb_1 (List.mem_of_getElem? (i := 123) rfl)) rfl
  | _ + 6, hk => omega
theorem clX0 : jv_cl 0 RX0 TX0 6 tyX0 := ⟨rfl, rfl, fun w hw => by
  obtain ⟨k, hk, rfl⟩ := List.mem_map.mp hw
  exact lyX0 k (List.mem_range.mp hk), tyX0_ok, nmX0, by decide +kernel, lw_tg_in (tb_1 (List.mem_of_getElem? (i := 101) rfl)) rfl, lw_tg_in (tb_1 (List.mem_of_getElem? (i := 3) rfl)) rfl, by decide +kernel⟩
theorem lyX1 : ∀ k, k < 3 → u_lay RX1 TX1 k ∈ lw_tg := by
  intro k hk
  match k, hk with
  | 0, _ => exact lw_tg_in (tb_1 (List.mem_of_getElem? (i := 162) rfl)) rfl
  | 1, _ => exact lw_tg_in (tb_1 (List.mem_of_getElem? (i := 164) rfl)) rfl
  | 2, _ => exact lw_tg_in (tb_1 (List.mem_of_getElem? (i := 166) rfl)) rfl
  | _ + 3, hk => omega
theorem clX1 : jv_cl 1 RX1 TX1 3 tyX1 := ⟨rfl, rfl, fun w hw => by
  obtain ⟨k, hk, rfl⟩ := List.mem_map.mp hw
  exact lyX1 k (List.mem_range.mp hk), tyX1_ok, nmX1, by decide +kernel, lw_tg_in (tb_1 (List.mem_of_getElem? (i := 151) rfl)) rfl, lw_tg_in (tb_1 (List.mem_of_getElem? (i := 5) rfl)) rfl, by decide +kernel⟩
theorem lyX2 : ∀ k, k < 5 → u_lay RX2 TX2 k ∈ lw_tg := by
  intro k hk
  match k, hk with
  | 0, _ => exact lw_tg_in (tb_1 (List.mem_of_getElem? (i := 138) rfl)) rfl
  | 1, _ => exact lw_tg_in (tb_1 (List.mem_of_getElem? (i := 140) rfl)) rfl
  | 2, _ => exact lw_tg_in (tb_1 (List.mem_of_getElem? (i := 142) rfl)) rfl
  | 3, _ => exact lw_tg_in (tb_1 (List.mem_of_getElem? (i := 144) rfl)) rfl
  | 4, _ => exact lw_tg_in (tb_1 (List.mem_of_getElem? (i := 146) rfl)) rfl
  | _ + 5, hk => omega
theorem clX2 : jv_cl 2 RX2 TX2 5 tyX2 := ⟨rfl, rfl, fun w hw => by
  obtain ⟨k, hk, rfl⟩ := List.mem_map.mp hw
  exact lyX2 k (List.mem_range.mp hk), tyX2_ok, nmX2, by decide +kernel, lw_tg_in (tb_1 (List.mem_of_getElem? (i := 127) rfl)) rfl, lw_tg_in (tb_1 (List.mem_of_getElem? (i := 4) rfl)) rfl, by decide +kernel⟩
theorem lyX3 : ∀ k, k < 15 → u_lay RX3 TX3 k ∈ lw_tg := by
  intro k hk
  match k, hk with
  | 0, _ => exact lw_tg_in (tb_1 (List.mem_of_getElem? (i := 68) rfl)) rfl
  | 1, _ => exact lw_tg_in (tb_1 (List.mem_of_getElem? (i := 70) rfl)) rfl
  | 2, _ => exact lw_tg_in (tb_1 (List.mem_of_getElem? (i := 72) rfl)) rfl
  | 3, _ => exact lw_tg_in (tb_1 (List.mem_of_getElem? (i := 74) rfl)) rfl
  | 4, _ => exact lw_tg_in (tb_1 (List.mem_of_getElem? (i := 76) rfl)) rfl
  | 5, _ => exact lw_tg_in (tb_1 (List.mem_of_getElem? (i := 78) rfl)) rfl
  | 6, _ => exact lw_tg_in (tb_1 (List.mem_of_getElem? (i := 80) rfl)) rfl
  | 7, _ => exact lw_tg_in (tb_1 (List.mem_of_getElem? (i := 82) rfl)) rfl
  | 8, _ => exact lw_tg_in (tb_1 (List.mem_of_getElem? (i := 84) rfl)) rfl
  | 9, _ => exact lw_tg_in (tb_1 (List.mem_of_getElem? (i := 86) rfl)) rfl
  | 10, _ => exact lw_tg_in (tb_1 (List.mem_of_getElem? (i := 88) rfl)) rfl
  | 11, _ => exact lw_tg_in (tb_1 (List.mem_of_getElem? (i := 90) rfl)) rfl
  | 12, _ => exact lw_tg_in (tb_1 (List.mem_of_getElem? (i := 92) rfl)) rfl
  | 13, _ => exact lw_tg_in (tb_1 (List.mem_of_getElem? (i := 94) rfl)) rfl
  | 14, _ => exact lw_tg_in (tb_1 (List.mem_of_getElem? (i := 96) rfl)) rfl
  | _ + 15, hk => omega
theorem clX3 : jv_cl 3 RX3 TX3 15 tyX3 := ⟨rfl, rfl, fun w hw => by
  obtain ⟨k, hk, rfl⟩ := List.mem_map.mp hw
  exact lyX3 k (List.mem_range.mp hk), tyX3_ok, nmX3, by decide +kernel, lw_tg_in (tb_1 (List.mem_of_getElem? (i := 22) rfl)) rfl, lw_tg_in (tb_1 (List.mem_of_getElem? (i := 2) rfl)) rfl, by decide +kernel⟩
theorem lyX4 : ∀ k, k < 8 → u_lay RX4 TX4 k ∈ lw_tg := by
  intro k hk
  match k, hk with
  | 0, _ => exact lw_tg_in (tb_1 (List.mem_of_getElem? (i := 178) rfl)) rfl
  | 1, _ => exact lw_tg_in (tb_1 (List.mem_of_getElem? (i := 180) rfl)) rfl
  | 2, _ => exact lw_tg_in (tb_1 (List.mem_of_getElem? (i := 182) rfl)) rfl
  | 3, _ => exact lw_tg_in (tb_1 (List.mem_of_getElem? (i := 184) rfl)) rfl
  | 4, _ => exact lw_tg_in (tb_1 (List.mem_of_getElem? (i := 186) rfl)) rfl
  | 5, _ => exact lw_tg_in (tb_1 (List.mem_of_getElem? (i := 188) rfl)) rfl
  | 6, _ => exact lw_tg_in (tb_1 (List.mem_of_getElem? (i := 190) rfl)) rfl
  | 7, _ => exact lw_tg_in (tb_1 (List.mem_of_getElem? (i := 192) rfl)) rfl
  | _ + 8, hk => omega
theorem clX4 : jv_cl 4 RX4 TX4 8 tyX4 := ⟨rfl, rfl, fun w hw => by
  obtain ⟨k, hk, rfl⟩ := List.mem_map.mp hw
  exact lyX4 k (List.mem_range.mp hk), tyX4_ok, nmX4, by decide +kernel, lw_tg_in (tb_1 (List.mem_of_getElem? (i := 14) rfl)) rfl, lw_tg_in (tb_1 (List.mem_of_getElem? (i := 1) rfl)) rfl, by decide +kernel⟩
theorem lyX5 : ∀ k, k < 35 → u_lay RX5 TX5 k ∈ lw_tg := by
  intro k hk
  match k, hk with
  | 0, _ => exact lw_tg_in (tb_4 (List.mem_of_getElem? (i := 188) rfl)) rfl
  | 1, _ => exact lw_tg_in (tb_4 (List.mem_of_getElem? (i := 190) rfl)) rfl
  | 2, _ => exact lw_tg_in (tb_4 (List.mem_of_getElem? (i := 192) rfl)) rfl
  | 3, _ => exact lw_tg_in (tb_4 (List.mem_of_getElem? (i := 194) rfl)) rfl
  | 4, _ => exact lw_tg_in (tb_4 (List.mem_of_getElem? (i := 196) rfl)) rfl
  | 5, _ => exact lw_tg_in (tb_4 (List.mem_of_getElem? (i := 198) rfl)) rfl
  | 6, _ => exact lw_tg_in (tb_4 (List.mem_of_getElem? (i := 200) rfl)) rfl
  | 7, _ => exact lw_tg_in (tb_4 (List.mem_of_getElem? (i := 202) rfl)) rfl
  | 8, _ => exact lw_tg_in (tb_4 (List.mem_of_getElem? (i := 204) rfl)) rfl
  | 9, _ => exact lw_tg_in (tb_4 (List.mem_of_getElem? (i := 206) rfl)) rfl
  | 10, _ => exact lw_tg_in (tb_4 (List.mem_of_getElem? (i := 208) rfl)) rfl
  | 11, _ => exact lw_tg_in (tb_4 (List.mem_of_getElem? (i := 210) rfl)) rfl
  | 12, _ => exact lw_tg_in (tb_4 (List.mem_of_getElem? (i := 212) rfl)) rfl
  | 13, _ => exact lw_tg_in (tb_4 (List.mem_of_getElem? (i := 214) rfl)) rfl
  | 14, _ => exact lw_tg_in (tb_4 (List.mem_of_getElem? (i := 216) rfl)) rfl
  | 15, _ => exact lw_tg_in (tb_4 (List.mem_of_getElem? (i := 218) rfl)) rfl
  | 16, _ => exact lw_tg_in (tb_4 (List.mem_of_getElem? (i := 220) rfl)) rfl
  | 17, _ => exact lw_tg_in (tb_4 (List.mem_of_getElem? (i := 222) rfl)) rfl
  | 18, _ => exact lw_tg_in (tb_4 (List.mem_of_getElem? (i := 224) rfl)) rfl
  | 19, _ => exact lw_tg_in (tb_4 (List.mem_of_getElem? (i := 226) rfl)) rfl
  | 20, _ => exact lw_tg_in (tb_4 (List.mem_of_getElem? (i := 228) rfl)) rfl
  | 21, _ => exact lw_tg_in (tb_4 (List.mem_of_getElem? (i := 230) rfl)) rfl
  | 22, _ => exact lw_tg_in (tb_4 (List.mem_of_getElem? (i := 232) rfl)) rfl
  | 23, _ => exact lw_tg_in (tb_4 (List.mem_of_getElem? (i := 234) rfl)) rfl
  | 24, _ => exact lw_tg_in (tb_4 (List.mem_of_getElem? (i := 236) rfl)) rfl
  | 25, _ => exact lw_tg_in (tb_4 (List.mem_of_getElem? (i := 238) rfl)) rfl
  | 26, _ => exact lw_tg_in (tb_5 (List.mem_of_getElem? (i := 0) rfl)) rfl
  | 27, _ => exact lw_tg_in (tb_5 (List.mem_of_getElem? (i := 2) rfl)) rfl
  | 28, _ => exact lw_tg_in (tb_5 (List.mem_of_getElem? (i := 4) rfl)) rfl
  | 29, _ => exact lw_tg_in (tb_5 (List.mem_of_getElem? (i := 6) rfl)) rfl
  | 30, _ => exact lw_tg_in (tb_5 (List.mem_of_getElem? (i := 8) rfl)) rfl
  | 31, _ => exact lw_tg_in (tb_5 (List.mem_of_getElem? (i := 10) rfl)) rfl
  | 32, _ => exact lw_tg_in (tb_5 (List.mem_of_getElem? (i := 12) rfl)) rfl
  | 33, _ => exact lw_tg_in (tb_5 (List.mem_of_getElem? (i := 14) rfl)) rfl
  | 34, _ => exact lw_tg_in (tb_5 (List.mem_of_getElem? (i := 16) rfl)) rfl
  | _ + 35, hk => omega
theorem clX5 : jv_cl 5 RX5 TX5 35 tyX5 := ⟨rfl, rfl, fun w hw => by
  obtain ⟨k, hk, rfl⟩ := List.mem_map.mp hw
  exact lyX5 k (List.mem_range.mp hk), tyX5_ok, nmX5, by decide +kernel, lw_tg_in (tb_4 (List.mem_of_getElem? (i := 146) rfl)) rfl, lw_tg_in (tb_1 (List.mem_of_getElem? (i := 6) rfl)) rfl, by decide +kernel⟩
theorem flX3_9 : jv_fl RX3 9 3 0 (.int) false := ⟨RX3, TX3, 15, tyX3, clX3, by decide, lw_tg_in (tb_1 (List.mem_of_getElem? (i := 27) rfl)) rfl, rfl, rfl⟩
theorem flX0_31 : jv_fl RX0 31 3 0 (.int) false := ⟨RX3, TX3, 15, tyX3, clX3, by decide, lw_tg_in (tb_1 (List.mem_of_getElem? (i := 28) rfl)) rfl, rfl, rfl⟩
theorem flX2_59 : jv_fl RX2 59 3 0 (.int) false := ⟨RX3, TX3, 15, tyX3, clX3, by decide, lw_tg_in (tb_1 (List.mem_of_getElem? (i := 29) rfl)) rfl, rfl, rfl⟩
theorem flX4_128 : jv_fl RX4 128 3 0 (.int) false := ⟨RX3, TX3, 15, tyX3, clX3, by decide, lw_tg_in (tb_1 (List.mem_of_getElem? (i := 30) rfl)) rfl, rfl, rfl⟩
theorem flX3_15 : jv_fl RX3 15 3 1 (.array .int) true := ⟨RX3, TX3, 15, tyX3, clX3, by decide, lw_tg_in (tb_1 (List.mem_of_getElem? (i := 31) rfl)) rfl, rfl, rfl⟩
theorem flX4_169 : jv_fl RX4 169 3 1 (.array .int) true := ⟨RX3, TX3, 15, tyX3, clX3, by decide, lw_tg_in (tb_1 (List.mem_of_getElem? (i := 32) rfl)) rfl, rfl, rfl⟩
theorem flX3_19 : jv_fl RX3 19 3 2 (.array .int) true := ⟨RX3, TX3, 15, tyX3, clX3, by decide, lw_tg_in (tb_1 (List.mem_of_getElem? (i := 33) rfl)) rfl, rfl, rfl⟩
theorem flX4_172 : jv_fl RX4 172 3 2 (.array .int) true := ⟨RX3, TX3, 15, tyX3, clX3, by decide, lw_tg_in (tb_1 (List.mem_of_getElem? (i := 34) rfl)) rfl, rfl, rfl⟩
theorem flX3_22 : jv_fl RX3 22 3 3 (.array .int) true := ⟨RX3, TX3, 15, tyX3, clX3, by decide, lw_tg_in (tb_1 (List.mem_of_getElem? (i := 35) rfl)) rfl, rfl, rfl⟩
theorem flX0_93 : jv_fl RX0 93 3 3 (.array .int) true := ⟨RX3, TX3, 15, tyX3, clX3, by decide, lw_tg_in (tb_1 (List.mem_of_getElem? (i := 36) rfl)) rfl, rfl, rfl⟩
theorem flX4_175 : jv_fl RX4 175 3 3 (.array .int) true := ⟨RX3, TX3, 15, tyX3, clX3, by decide, lw_tg_in (tb_1 (List.mem_of_getElem? (i := 37) rfl)) rfl, rfl, rfl⟩
theorem flX3_25 : jv_fl RX3 25 3 4 (.array .int) true := ⟨RX3, TX3, 15, tyX3, clX3, by decide, lw_tg_in (tb_1 (List.mem_of_getElem? (i := 38) rfl)) rfl, rfl, rfl⟩
theorem flX0_133 : jv_fl RX0 133 3 4 (.array .int) true := ⟨RX3, TX3, 15, tyX3, clX3, by decide, lw_tg_in (tb_1 (List.mem_of_getElem? (i := 39) rfl)) rfl, rfl, rfl⟩
theorem flX4_205 : jv_fl RX4 205 3 4 (.array .int) true := ⟨RX3, TX3, 15, tyX3, clX3, by decide, lw_tg_in (tb_1 (List.mem_of_getElem? (i := 40) rfl)) rfl, rfl, rfl⟩
theorem flX3_28 : jv_fl RX3 28 3 5 (.int) false := ⟨RX3, TX3, 15, tyX3, clX3, by decide, lw_tg_in (tb_1 (List.mem_of_getElem? (i := 41) rfl)) rfl, rfl, rfl⟩
theorem flX2_69 : jv_fl RX2 69 3 5 (.int) false := ⟨RX3, TX3, 15, tyX3, clX3, by decide, lw_tg_in (tb_1 (List.mem_of_getElem? (i := 42) rfl)) rfl, rfl, rfl⟩
theorem flX4_134 : jv_fl RX4 134 3 5 (.int) false := ⟨RX3, TX3, 15, tyX3, clX3, by decide, lw_tg_in (tb_1 (List.mem_of_getElem? (i := 43) rfl)) rfl, rfl, rfl⟩
theorem flX3_31 : jv_fl RX3 31 3 6 (.array .int) true := ⟨RX3, TX3, 15, tyX3, clX3, by decide, lw_tg_in (tb_1 (List.mem_of_getElem? (i := 44) rfl)) rfl, rfl, rfl⟩
theorem flX4_119 : jv_fl RX4 119 3 6 (.array .int) true := ⟨RX3, TX3, 15, tyX3, clX3, by decide, lw_tg_in (tb_1 (List.mem_of_getElem? (i := 45) rfl)) rfl, rfl, rfl⟩
theorem flX3_34 : jv_fl RX3 34 3 7 (.array .int) true := ⟨RX3, TX3, 15, tyX3, clX3, by decide, lw_tg_in (tb_1 (List.mem_of_getElem? (i := 46) rfl)) rfl, rfl, rfl⟩
theorem flX4_181 : jv_fl RX4 181 3 7 (.array .int) true := ⟨RX3, TX3, 15, tyX3, clX3, by decide, lw_tg_in (tb_1 (List.mem_of_getElem? (i := 47) rfl)) rfl, rfl, rfl⟩
theorem flX3_37 : jv_fl RX3 37 3 8 (.array .int) true := ⟨RX3, TX3, 15, tyX3, clX3, by decide, lw_tg_in (tb_1 (List.mem_of_getElem? (i := 48) rfl)) rfl, rfl, rfl⟩
theorem flX4_184 : jv_fl RX4 184 3 8 (.array .int) true := ⟨RX3, TX3, 15, tyX3, clX3, by decide, lw_tg_in (tb_1 (List.mem_of_getElem? (i := 49) rfl)) rfl, rfl, rfl⟩
theorem flX3_40 : jv_fl RX3 40 3 9 (.int) false := ⟨RX3, TX3, 15, tyX3, clX3, by decide, lw_tg_in (tb_1 (List.mem_of_getElem? (i := 50) rfl)) rfl, rfl, rfl⟩
theorem flX0_41 : jv_fl RX0 41 3 9 (.int) false := ⟨RX3, TX3, 15, tyX3, clX3, by decide, lw_tg_in (tb_1 (List.mem_of_getElem? (i := 51) rfl)) rfl, rfl, rfl⟩
theorem flX2_77 : jv_fl RX2 77 3 9 (.int) false := ⟨RX3, TX3, 15, tyX3, clX3, by decide, lw_tg_in (tb_1 (List.mem_of_getElem? (i := 52) rfl)) rfl, rfl, rfl⟩
theorem flX4_144 : jv_fl RX4 144 3 9 (.int) false := ⟨RX3, TX3, 15, tyX3, clX3, by decide, lw_tg_in (tb_1 (List.mem_of_getElem? (i := 53) rfl)) rfl, rfl, rfl⟩
theorem flX3_43 : jv_fl RX3 43 3 10 (.array .int) true := ⟨RX3, TX3, 15, tyX3, clX3, by decide, lw_tg_in (tb_1 (List.mem_of_getElem? (i := 54) rfl)) rfl, rfl, rfl⟩
theorem flX0_44 : jv_fl RX0 44 3 10 (.array .int) true := ⟨RX3, TX3, 15, tyX3, clX3, by decide, lw_tg_in (tb_1 (List.mem_of_getElem? (i := 55) rfl)) rfl, rfl, rfl⟩
theorem flX4_190 : jv_fl RX4 190 3 10 (.array .int) true := ⟨RX3, TX3, 15, tyX3, clX3, by decide, lw_tg_in (tb_1 (List.mem_of_getElem? (i := 56) rfl)) rfl, rfl, rfl⟩
theorem flX3_46 : jv_fl RX3 46 3 11 (.array .int) true := ⟨RX3, TX3, 15, tyX3, clX3, by decide, lw_tg_in (tb_1 (List.mem_of_getElem? (i := 57) rfl)) rfl, rfl, rfl⟩
theorem flX0_47 : jv_fl RX0 47 3 11 (.array .int) true := ⟨RX3, TX3, 15, tyX3, clX3, by decide, lw_tg_in (tb_1 (List.mem_of_getElem? (i := 58) rfl)) rfl, rfl, rfl⟩
theorem flX4_193 : jv_fl RX4 193 3 11 (.array .int) true := ⟨RX3, TX3, 15, tyX3, clX3, by decide, lw_tg_in (tb_1 (List.mem_of_getElem? (i := 59) rfl)) rfl, rfl, rfl⟩
theorem flX3_49 : jv_fl RX3 49 3 12 (.array .int) true := ⟨RX3, TX3, 15, tyX3, clX3, by decide, lw_tg_in (tb_1 (List.mem_of_getElem? (i := 60) rfl)) rfl, rfl, rfl⟩
theorem flX0_50 : jv_fl RX0 50 3 12 (.array .int) true := ⟨RX3, TX3, 15, tyX3, clX3, by decide, lw_tg_in (tb_1 (List.mem_of_getElem? (i := 61) rfl)) rfl, rfl, rfl⟩
theorem flX4_196 : jv_fl RX4 196 3 12 (.array .int) true := ⟨RX3, TX3, 15, tyX3, clX3, by decide, lw_tg_in (tb_1 (List.mem_of_getElem? (i := 62) rfl)) rfl, rfl, rfl⟩
theorem flX3_52 : jv_fl RX3 52 3 13 (.array .int) true := ⟨RX3, TX3, 15, tyX3, clX3, by decide, lw_tg_in (tb_1 (List.mem_of_getElem? (i := 63) rfl)) rfl, rfl, rfl⟩
theorem flX0_53 : jv_fl RX0 53 3 13 (.array .int) true := ⟨RX3, TX3, 15, tyX3, clX3, by decide, lw_tg_in (tb_1 (List.mem_of_getElem? (i := 64) rfl)) rfl, rfl, rfl⟩
theorem flX4_199 : jv_fl RX4 199 3 13 (.array .int) true := ⟨RX3, TX3, 15, tyX3, clX3, by decide, lw_tg_in (tb_1 (List.mem_of_getElem? (i := 65) rfl)) rfl, rfl, rfl⟩
theorem flX3_55 : jv_fl RX3 55 3 14 (.int) false := ⟨RX3, TX3, 15, tyX3, clX3, by decide, lw_tg_in (tb_1 (List.mem_of_getElem? (i := 66) rfl)) rfl, rfl, rfl⟩
theorem flX4_298 : jv_fl RX4 298 3 14 (.int) false := ⟨RX3, TX3, 15, tyX3, clX3, by decide, lw_tg_in (tb_1 (List.mem_of_getElem? (i := 67) rfl)) rfl, rfl, rfl⟩
theorem flX0_27 : jv_fl RX0 27 0 0 (.object "OneTwoOneTwo$Yard") true := ⟨RX0, TX0, 6, tyX0, clX0, by decide, lw_tg_in (tb_1 (List.mem_of_getElem? (i := 106) rfl)) rfl, rfl, rfl⟩
theorem flX0_9 : jv_fl RX0 9 0 1 (.array .int) true := ⟨RX0, TX0, 6, tyX0, clX0, by decide, lw_tg_in (tb_1 (List.mem_of_getElem? (i := 107) rfl)) rfl, rfl, rfl⟩
theorem flX0_15 : jv_fl RX0 15 0 2 (.array .int) true := ⟨RX0, TX0, 6, tyX0, clX0, by decide, lw_tg_in (tb_1 (List.mem_of_getElem? (i := 108) rfl)) rfl, rfl, rfl⟩
theorem flX0_18 : jv_fl RX0 18 0 3 (.array .int) true := ⟨RX0, TX0, 6, tyX0, clX0, by decide, lw_tg_in (tb_1 (List.mem_of_getElem? (i := 109) rfl)) rfl, rfl, rfl⟩
theorem flX0_21 : jv_fl RX0 21 0 4 (.array .int) true := ⟨RX0, TX0, 6, tyX0, clX0, by decide, lw_tg_in (tb_1 (List.mem_of_getElem? (i := 110) rfl)) rfl, rfl, rfl⟩
theorem flX0_24 : jv_fl RX0 24 0 5 (.array .int) true := ⟨RX0, TX0, 6, tyX0, clX0, by decide, lw_tg_in (tb_1 (List.mem_of_getElem? (i := 111) rfl)) rfl, rfl, rfl⟩
theorem flX4_262 : jv_fl RX4 262 0 5 (.array .int) true := ⟨RX0, TX0, 6, tyX0, clX0, by decide, lw_tg_in (tb_1 (List.mem_of_getElem? (i := 112) rfl)) rfl, rfl, rfl⟩
theorem flX2_9 : jv_fl RX2 9 2 0 (.array .int) true := ⟨RX2, TX2, 5, tyX2, clX2, by decide, lw_tg_in (tb_1 (List.mem_of_getElem? (i := 132) rfl)) rfl, rfl, rfl⟩
theorem flX2_15 : jv_fl RX2 15 2 1 (.int) false := ⟨RX2, TX2, 5, tyX2, clX2, by decide, lw_tg_in (tb_1 (List.mem_of_getElem? (i := 133) rfl)) rfl, rfl, rfl⟩
theorem flX4_151 : jv_fl RX4 151 2 1 (.int) false := ⟨RX2, TX2, 5, tyX2, clX2, by decide, lw_tg_in (tb_1 (List.mem_of_getElem? (i := 134) rfl)) rfl, rfl, rfl⟩
theorem flX2_19 : jv_fl RX2 19 2 2 (.int) false := ⟨RX2, TX2, 5, tyX2, clX2, by decide, lw_tg_in (tb_1 (List.mem_of_getElem? (i := 135) rfl)) rfl, rfl, rfl⟩
theorem flX2_22 : jv_fl RX2 22 2 3 (.int) false := ⟨RX2, TX2, 5, tyX2, clX2, by decide, lw_tg_in (tb_1 (List.mem_of_getElem? (i := 136) rfl)) rfl, rfl, rfl⟩
theorem flX2_25 : jv_fl RX2 25 2 4 (.int) false := ⟨RX2, TX2, 5, tyX2, clX2, by decide, lw_tg_in (tb_1 (List.mem_of_getElem? (i := 137) rfl)) rfl, rfl, rfl⟩
theorem flX1_9 : jv_fl RX1 9 1 0 (.int) false := ⟨RX1, TX1, 3, tyX1, clX1, by decide, lw_tg_in (tb_1 (List.mem_of_getElem? (i := 156) rfl)) rfl, rfl, rfl⟩
theorem flX4_97 : jv_fl RX4 97 1 0 (.int) false := ⟨RX1, TX1, 3, tyX1, clX1, by decide, lw_tg_in (tb_1 (List.mem_of_getElem? (i := 157) rfl)) rfl, rfl, rfl⟩
theorem flX1_15 : jv_fl RX1 15 1 1 (.int) false := ⟨RX1, TX1, 3, tyX1, clX1, by decide, lw_tg_in (tb_1 (List.mem_of_getElem? (i := 158) rfl)) rfl, rfl, rfl⟩
theorem flX4_316 : jv_fl RX4 316 1 1 (.int) false := ⟨RX1, TX1, 3, tyX1, clX1, by decide, lw_tg_in (tb_1 (List.mem_of_getElem? (i := 159) rfl)) rfl, rfl, rfl⟩
theorem flX1_18 : jv_fl RX1 18 1 2 (.array .long) true := ⟨RX1, TX1, 3, tyX1, clX1, by decide, lw_tg_in (tb_1 (List.mem_of_getElem? (i := 160) rfl)) rfl, rfl, rfl⟩
theorem flX4_87 : jv_fl RX4 87 1 2 (.array .long) true := ⟨RX1, TX1, 3, tyX1, clX1, by decide, lw_tg_in (tb_1 (List.mem_of_getElem? (i := 161) rfl)) rfl, rfl, rfl⟩
theorem flX4_10 : jv_fl RX4 10 4 0 (.object "OneTwoOneTwo$Yard") true := ⟨RX4, TX4, 8, tyX4, clX4, by decide, lw_tg_in (tb_1 (List.mem_of_getElem? (i := 170) rfl)) rfl, rfl, rfl⟩
theorem flX4_16 : jv_fl RX4 16 4 1 (.object "OneTwoOneTwo$Yard") true := ⟨RX4, TX4, 8, tyX4, clX4, by decide, lw_tg_in (tb_1 (List.mem_of_getElem? (i := 171) rfl)) rfl, rfl, rfl⟩
theorem flX4_19 : jv_fl RX4 19 4 2 (.object "OneTwoOneTwo$Yard") true := ⟨RX4, TX4, 8, tyX4, clX4, by decide, lw_tg_in (tb_1 (List.mem_of_getElem? (i := 172) rfl)) rfl, rfl, rfl⟩
theorem flX4_27 : jv_fl RX4 27 4 3 (.object "OneTwoOneTwo$Finder") true := ⟨RX4, TX4, 8, tyX4, clX4, by decide, lw_tg_in (tb_1 (List.mem_of_getElem? (i := 173) rfl)) rfl, rfl, rfl⟩
theorem flX4_34 : jv_fl RX4 34 4 4 (.object "OneTwoOneTwo$Tape") true := ⟨RX4, TX4, 8, tyX4, clX4, by decide, lw_tg_in (tb_1 (List.mem_of_getElem? (i := 174) rfl)) rfl, rfl, rfl⟩
theorem flX4_40 : jv_fl RX4 40 4 5 (.array (.object "OneTwoOneTwo$Shelf")) true := ⟨RX4, TX4, 8, tyX4, clX4, by decide, lw_tg_in (tb_1 (List.mem_of_getElem? (i := 175) rfl)) rfl, rfl, rfl⟩
theorem flX4_44 : jv_fl RX4 44 4 6 (.array .int) true := ⟨RX4, TX4, 8, tyX4, clX4, by decide, lw_tg_in (tb_1 (List.mem_of_getElem? (i := 176) rfl)) rfl, rfl, rfl⟩
theorem flX4_48 : jv_fl RX4 48 4 7 (.boolean) false := ⟨RX4, TX4, 8, tyX4, clX4, by decide, lw_tg_in (tb_1 (List.mem_of_getElem? (i := 177) rfl)) rfl, rfl, rfl⟩
theorem flwX4_313 : Cond.fieldLink RX4 313 "OneTwoOneTwo" "UNDER" "[I" ∈ lw_tg := lw_tg_in (tb_2 (List.mem_of_getElem? (i := 50) rfl)) rfl
theorem flwJ0_38 : Cond.fieldLink RJ0 38 "java/lang/String" "COMPACT_STRINGS" "Z" ∈ lw_tg := lw_tg_in (tb_2 (List.mem_of_getElem? (i := 154) rfl)) rfl
theorem flwJ0_1053 : Cond.fieldLink RJ0 1053 "jdk/internal/util/Preconditions" "SIOOBE_FORMATTER" "Ljava/util/function/BiFunction;" ∈ lw_tg := lw_tg_in (tb_2 (List.mem_of_getElem? (i := 170) rfl)) rfl
theorem flwJ2_44 : Cond.fieldLink RJ2 44 "java/lang/StringUTF16" "$assertionsDisabled" "Z" ∈ lw_tg := lw_tg_in (tb_2 (List.mem_of_getElem? (i := 188) rfl)) rfl
theorem flwJ2_59 : Cond.fieldLink RJ2 59 "java/lang/StringUTF16" "HI_BYTE_SHIFT" "I" ∈ lw_tg := lw_tg_in (tb_2 (List.mem_of_getElem? (i := 190) rfl)) rfl
theorem flwJ2_63 : Cond.fieldLink RJ2 63 "java/lang/StringUTF16" "LO_BYTE_SHIFT" "I" ∈ lw_tg := lw_tg_in (tb_2 (List.mem_of_getElem? (i := 192) rfl)) rfl
theorem flX5_7 : jv_fl RX5 7 5 0 (.array .int) true := ⟨RX5, TX5, 35, tyX5, clX5, by decide, lw_tg_in (tb_4 (List.mem_of_getElem? (i := 153) rfl)) rfl, rfl, rfl⟩
theorem flX5_13 : jv_fl RX5 13 5 1 (.array .int) true := ⟨RX5, TX5, 35, tyX5, clX5, by decide, lw_tg_in (tb_4 (List.mem_of_getElem? (i := 154) rfl)) rfl, rfl, rfl⟩
theorem flX5_16 : jv_fl RX5 16 5 2 (.array .int) true := ⟨RX5, TX5, 35, tyX5, clX5, by decide, lw_tg_in (tb_4 (List.mem_of_getElem? (i := 155) rfl)) rfl, rfl, rfl⟩
theorem flX5_21 : jv_fl RX5 21 5 3 (.array (.array .long)) true := ⟨RX5, TX5, 35, tyX5, clX5, by decide, lw_tg_in (tb_4 (List.mem_of_getElem? (i := 156) rfl)) rfl, rfl, rfl⟩
theorem flX5_24 : jv_fl RX5 24 5 4 (.array .long) true := ⟨RX5, TX5, 35, tyX5, clX5, by decide, lw_tg_in (tb_4 (List.mem_of_getElem? (i := 157) rfl)) rfl, rfl, rfl⟩
theorem flX5_28 : jv_fl RX5 28 5 5 (.array .int) true := ⟨RX5, TX5, 35, tyX5, clX5, by decide, lw_tg_in (tb_4 (List.mem_of_getElem? (i := 158) rfl)) rfl, rfl, rfl⟩
theorem flX5_31 : jv_fl RX5 31 5 6 (.array .int) true := ⟨RX5, TX5, 35, tyX5, clX5, by decide, lw_tg_in (tb_4 (List.mem_of_getElem? (i := 159) rfl)) rfl, rfl, rfl⟩
theorem flX5_154 : jv_fl RX5 154 5 7 (.int) false := ⟨RX5, TX5, 35, tyX5, clX5, by decide, lw_tg_in (tb_4 (List.mem_of_getElem? (i := 160) rfl)) rfl, rfl, rfl⟩
theorem flX5_34 : jv_fl RX5 34 5 8 (.array .int) true := ⟨RX5, TX5, 35, tyX5, clX5, by decide, lw_tg_in (tb_4 (List.mem_of_getElem? (i := 161) rfl)) rfl, rfl, rfl⟩
theorem flX5_80 : jv_fl RX5 80 5 9 (.int) false := ⟨RX5, TX5, 35, tyX5, clX5, by decide, lw_tg_in (tb_4 (List.mem_of_getElem? (i := 162) rfl)) rfl, rfl, rfl⟩
theorem flX5_37 : jv_fl RX5 37 5 10 (.array .int) true := ⟨RX5, TX5, 35, tyX5, clX5, by decide, lw_tg_in (tb_4 (List.mem_of_getElem? (i := 163) rfl)) rfl, rfl, rfl⟩
theorem flX5_40 : jv_fl RX5 40 5 11 (.array .int) true := ⟨RX5, TX5, 35, tyX5, clX5, by decide, lw_tg_in (tb_4 (List.mem_of_getElem? (i := 164) rfl)) rfl, rfl, rfl⟩
theorem flX5_43 : jv_fl RX5 43 5 12 (.array .int) true := ⟨RX5, TX5, 35, tyX5, clX5, by decide, lw_tg_in (tb_4 (List.mem_of_getElem? (i := 165) rfl)) rfl, rfl, rfl⟩
theorem flX5_91 : jv_fl RX5 91 5 13 (.int) false := ⟨RX5, TX5, 35, tyX5, clX5, by decide, lw_tg_in (tb_4 (List.mem_of_getElem? (i := 166) rfl)) rfl, rfl, rfl⟩
theorem flX5_46 : jv_fl RX5 46 5 14 (.array .int) true := ⟨RX5, TX5, 35, tyX5, clX5, by decide, lw_tg_in (tb_4 (List.mem_of_getElem? (i := 167) rfl)) rfl, rfl, rfl⟩
theorem flX5_49 : jv_fl RX5 49 5 15 (.array .int) true := ⟨RX5, TX5, 35, tyX5, clX5, by decide, lw_tg_in (tb_4 (List.mem_of_getElem? (i := 168) rfl)) rfl, rfl, rfl⟩
theorem flX5_52 : jv_fl RX5 52 5 16 (.array .int) true := ⟨RX5, TX5, 35, tyX5, clX5, by decide, lw_tg_in (tb_4 (List.mem_of_getElem? (i := 169) rfl)) rfl, rfl, rfl⟩
theorem flX5_141 : jv_fl RX5 141 5 17 (.int) false := ⟨RX5, TX5, 35, tyX5, clX5, by decide, lw_tg_in (tb_4 (List.mem_of_getElem? (i := 170) rfl)) rfl, rfl, rfl⟩
theorem flX5_55 : jv_fl RX5 55 5 18 (.array .int) true := ⟨RX5, TX5, 35, tyX5, clX5, by decide, lw_tg_in (tb_4 (List.mem_of_getElem? (i := 171) rfl)) rfl, rfl, rfl⟩
theorem flX5_58 : jv_fl RX5 58 5 19 (.array .int) true := ⟨RX5, TX5, 35, tyX5, clX5, by decide, lw_tg_in (tb_4 (List.mem_of_getElem? (i := 172) rfl)) rfl, rfl, rfl⟩
theorem flX5_61 : jv_fl RX5 61 5 20 (.array .int) true := ⟨RX5, TX5, 35, tyX5, clX5, by decide, lw_tg_in (tb_4 (List.mem_of_getElem? (i := 173) rfl)) rfl, rfl, rfl⟩
theorem flX5_64 : jv_fl RX5 64 5 21 (.array .int) true := ⟨RX5, TX5, 35, tyX5, clX5, by decide, lw_tg_in (tb_4 (List.mem_of_getElem? (i := 174) rfl)) rfl, rfl, rfl⟩
theorem flX5_67 : jv_fl RX5 67 5 22 (.int) false := ⟨RX5, TX5, 35, tyX5, clX5, by decide, lw_tg_in (tb_4 (List.mem_of_getElem? (i := 175) rfl)) rfl, rfl, rfl⟩
theorem flX5_339 : jv_fl RX5 339 5 23 (.object "OneTwoOneTwoModel") false := ⟨RX5, TX5, 35, tyX5, clX5, by decide, lw_tg_in (tb_4 (List.mem_of_getElem? (i := 176) rfl)) rfl, rfl, rfl⟩
theorem flX5_236 : jv_fl RX5 236 5 24 (.object "OneTwoOneTwoModel") false := ⟨RX5, TX5, 35, tyX5, clX5, by decide, lw_tg_in (tb_4 (List.mem_of_getElem? (i := 177) rfl)) rfl, rfl, rfl⟩
theorem flX5_157 : jv_fl RX5 157 5 25 (.int) false := ⟨RX5, TX5, 35, tyX5, clX5, by decide, lw_tg_in (tb_4 (List.mem_of_getElem? (i := 178) rfl)) rfl, rfl, rfl⟩
theorem flX5_166 : jv_fl RX5 166 5 26 (.int) false := ⟨RX5, TX5, 35, tyX5, clX5, by decide, lw_tg_in (tb_4 (List.mem_of_getElem? (i := 179) rfl)) rfl, rfl, rfl⟩
theorem flX5_160 : jv_fl RX5 160 5 27 (.int) false := ⟨RX5, TX5, 35, tyX5, clX5, by decide, lw_tg_in (tb_4 (List.mem_of_getElem? (i := 180) rfl)) rfl, rfl, rfl⟩
theorem flX5_163 : jv_fl RX5 163 5 28 (.int) false := ⟨RX5, TX5, 35, tyX5, clX5, by decide, lw_tg_in (tb_4 (List.mem_of_getElem? (i := 181) rfl)) rfl, rfl, rfl⟩
theorem flX5_175 : jv_fl RX5 175 5 29 (.int) false := ⟨RX5, TX5, 35, tyX5, clX5, by decide, lw_tg_in (tb_4 (List.mem_of_getElem? (i := 182) rfl)) rfl, rfl, rfl⟩
theorem flX5_71 : jv_fl RX5 71 5 30 (.array .int) true := ⟨RX5, TX5, 35, tyX5, clX5, by decide, lw_tg_in (tb_4 (List.mem_of_getElem? (i := 183) rfl)) rfl, rfl, rfl⟩
theorem flX5_230 : jv_fl RX5 230 5 31 (.int) false := ⟨RX5, TX5, 35, tyX5, clX5, by decide, lw_tg_in (tb_4 (List.mem_of_getElem? (i := 184) rfl)) rfl, rfl, rfl⟩
theorem flX5_298 : jv_fl RX5 298 5 32 (.int) false := ⟨RX5, TX5, 35, tyX5, clX5, by decide, lw_tg_in (tb_4 (List.mem_of_getElem? (i := 185) rfl)) rfl, rfl, rfl⟩
theorem flX5_74 : jv_fl RX5 74 5 33 (.array .int) true := ⟨RX5, TX5, 35, tyX5, clX5, by decide, lw_tg_in (tb_4 (List.mem_of_getElem? (i := 186) rfl)) rfl, rfl, rfl⟩
theorem flX5_77 : jv_fl RX5 77 5 34 (.array .int) true := ⟨RX5, TX5, 35, tyX5, clX5, by decide, lw_tg_in (tb_4 (List.mem_of_getElem? (i := 187) rfl)) rfl, rfl, rfl⟩
theorem flwJ0_9 : Cond.fieldLink RJ0 9 "java/lang/String" "value" "[B" ∈ lw_tg := lw_tg_in (tb_6 (List.mem_of_getElem? (i := 232) rfl)) rfl
theorem flwJ0_15 : Cond.fieldLink RJ0 15 "java/lang/String" "coder" "B" ∈ lw_tg := lw_tg_in (tb_6 (List.mem_of_getElem? (i := 233) rfl)) rfl
theorem klL_7 : Cond.classLink RL 7 RX4 ∈ lw_tg := lw_tg_in (tb_1 (List.mem_of_getElem? (i := 13) rfl)) rfl
theorem klX4_7 : Cond.classLink RX4 7 RX3 ∈ lw_tg := lw_tg_in (tb_1 (List.mem_of_getElem? (i := 21) rfl)) rfl
theorem ac_int : Cond.arrayClass .int ∈ lw_tg := lw_tg_in (tb_1 (List.mem_of_getElem? (i := 99) rfl)) rfl
theorem klX4_22 : Cond.classLink RX4 22 RX0 ∈ lw_tg := lw_tg_in (tb_1 (List.mem_of_getElem? (i := 100) rfl)) rfl
theorem klX4_31 : Cond.classLink RX4 31 RX2 ∈ lw_tg := lw_tg_in (tb_1 (List.mem_of_getElem? (i := 126) rfl)) rfl
theorem klX4_38 : Cond.classLink RX4 38 RX1 ∈ lw_tg := lw_tg_in (tb_1 (List.mem_of_getElem? (i := 149) rfl)) rfl
theorem ac_long : Cond.arrayClass .long ∈ lw_tg := lw_tg_in (tb_1 (List.mem_of_getElem? (i := 169) rfl)) rfl
theorem ac_byte : Cond.arrayClass .byte ∈ lw_tg := lw_tg_in (tb_2 (List.mem_of_getElem? (i := 239) rfl)) rfl
theorem cnX3_88 : Cond.constantLong RX3 88 1400 ∈ lw_tg := lw_tg_in (tb_4 (List.mem_of_getElem? (i := 76) rfl)) rfl
theorem cnX3_97 : Cond.constant RX3 97 1103515245 ∈ lw_tg := lw_tg_in (tb_4 (List.mem_of_getElem? (i := 119) rfl)) rfl
theorem klL_10 : Cond.classLink RL 10 RX5 ∈ lw_tg := lw_tg_in (tb_4 (List.mem_of_getElem? (i := 145) rfl)) rfl
theorem klX5_19 : Cond.classLink RX5 19 "[[J" ∈ lw_tg := lw_tg_in (tb_4 (List.mem_of_getElem? (i := 151) rfl)) rfl
theorem cnX5_98 : Cond.constantLong RX5 98 7 ∈ lw_tg := lw_tg_in (tb_5 (List.mem_of_getElem? (i := 23) rfl)) rfl
theorem cnX5_100 : Cond.constantLong RX5 100 4 ∈ lw_tg := lw_tg_in (tb_5 (List.mem_of_getElem? (i := 27) rfl)) rfl
theorem cnX5_102 : Cond.constantLong RX5 102 40 ∈ lw_tg := lw_tg_in (tb_5 (List.mem_of_getElem? (i := 28) rfl)) rfl
theorem cnX5_115 : Cond.constantLong RX5 115 5 ∈ lw_tg := lw_tg_in (tb_5 (List.mem_of_getElem? (i := 68) rfl)) rfl
theorem cnX5_125 : Cond.constantLong RX5 125 99 ∈ lw_tg := lw_tg_in (tb_5 (List.mem_of_getElem? (i := 84) rfl)) rfl
theorem cnX5_127 : Cond.constantLong RX5 127 9 ∈ lw_tg := lw_tg_in (tb_5 (List.mem_of_getElem? (i := 85) rfl)) rfl
theorem cnX5_133 : Cond.constantLong RX5 133 2 ∈ lw_tg := lw_tg_in (tb_5 (List.mem_of_getElem? (i := 94) rfl)) rfl
theorem cnX5_135 : Cond.constantLong RX5 135 13 ∈ lw_tg := lw_tg_in (tb_5 (List.mem_of_getElem? (i := 95) rfl)) rfl
theorem cnX5_152 : Cond.constantLong RX5 152 255 ∈ lw_tg := lw_tg_in (tb_5 (List.mem_of_getElem? (i := 124) rfl)) rfl
theorem klX5_8 : Cond.classLink RX5 8 RX5 ∈ lw_tg := lw_tg_in (tb_5 (List.mem_of_getElem? (i := 137) rfl)) rfl
theorem cnX5_252 : Cond.constantLong RX5 252 3 ∈ lw_tg := lw_tg_in (tb_5 (List.mem_of_getElem? (i := 208) rfl)) rfl
theorem cnX5_296 : Cond.constantLong RX5 296 9999 ∈ lw_tg := lw_tg_in (tb_6 (List.mem_of_getElem? (i := 92) rfl)) rfl
theorem cnX5_307 : Cond.constantLong RX5 307 20 ∈ lw_tg := lw_tg_in (tb_6 (List.mem_of_getElem? (i := 133) rfl)) rfl
theorem cnX5_320 : Cond.constantLong RX5 320 100 ∈ lw_tg := lw_tg_in (tb_6 (List.mem_of_getElem? (i := 178) rfl)) rfl
theorem cnX5_330 : Cond.constantLong RX5 330 60 ∈ lw_tg := lw_tg_in (tb_6 (List.mem_of_getElem? (i := 207) rfl)) rfl
theorem cnX5_329 : Cond.constant RX5 329 1103515245 ∈ lw_tg := lw_tg_in (tb_6 (List.mem_of_getElem? (i := 212) rfl)) rfl
theorem cnX5_342 : Cond.constantLong RX5 342 12 ∈ lw_tg := lw_tg_in (tb_6 (List.mem_of_getElem? (i := 229) rfl)) rfl
theorem cnX5_344 : Cond.constantLong RX5 344 16 ∈ lw_tg := lw_tg_in (tb_6 (List.mem_of_getElem? (i := 230) rfl)) rfl
theorem cnL_18 : Cond.constantLong RL 18 4294967295 ∈ lw_tg := lw_tg_in (tb_6 (List.mem_of_getElem? (i := 231) rfl)) rfl
theorem nat_copy : Cond.native arraycopyName ∈ lw_tg := lw_tg_in (tb_2 (List.mem_of_getElem? (i := 12) rfl)) rfl
theorem st_copy : Cond.static arraycopyName ∈ lw_tg := lw_tg_in (tb_2 (List.mem_of_getElem? (i := 11) rfl)) rfl
theorem ini_sys : Cond.initialized "java/lang/System" ∈ lw_tg := lw_tg_in (tb_1 (List.mem_of_getElem? (i := 7) rfl)) rfl
theorem ini_math : Cond.initialized "java/lang/Math" ∈ lw_tg := lw_tg_in (tb_1 (List.mem_of_getElem? (i := 12) rfl)) rfl
theorem st_max : Cond.static Lib.Math.max.name ∈ lw_tg := lw_tg_in (tb_3 (List.mem_of_getElem? (i := 178) rfl)) rfl
theorem co_max : Cond.code Lib.Math.max.name Lib.Math.max.code 2 (some .int) ∈ lw_tg := lw_tg_in (tb_3 (List.mem_of_getElem? (i := 179) rfl)) rfl
theorem st_min : Cond.static Lib.Math.min.name ∈ lw_tg := lw_tg_in (tb_3 (List.mem_of_getElem? (i := 181) rfl)) rfl
theorem co_min : Cond.code Lib.Math.min.name Lib.Math.min.code 2 (some .int) ∈ lw_tg := lw_tg_in (tb_3 (List.mem_of_getElem? (i := 182) rfl)) rfl
theorem st_abs : Cond.static Lib.Math.abs.name ∈ lw_tg := lw_tg_in (tb_3 (List.mem_of_getElem? (i := 200) rfl)) rfl
theorem co_abs : Cond.code Lib.Math.abs.name Lib.Math.abs.code 1 (some .int) ∈ lw_tg := lw_tg_in (tb_3 (List.mem_of_getElem? (i := 201) rfl)) rfl
theorem in_obj : Cond.instanceMethod Lib.objectInit ∈ lw_tg := lw_tg_in (tb_1 (List.mem_of_getElem? (i := 19) rfl)) rfl
theorem co_obj : Cond.code Lib.objectInit ⟨#[0xb1]⟩ 1 none ∈ lw_tg := lw_tg_in (tb_1 (List.mem_of_getElem? (i := 20) rfl)) rfl
