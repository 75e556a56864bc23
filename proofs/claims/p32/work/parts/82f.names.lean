/-! THE LAW: one list of words for all its methods. Laid by gen/words.py. -/
set_option maxRecDepth 100000 in
theorem lawGood : wsL_law.all goodWord = true := by decide +kernel
theorem lawGoodM {w : Cond} (h : w ∈ wsL_law) : goodWord w = true := List.all_eq_true.mp lawGood w h
theorem gq {c0 : Cond} {idx maxL : Nat} {y : MethodName} {cc : ByteArray} {ret : Option FieldType} (h1 : Cond.methodLink RL idx y ∈ wsL_law) (h2 : Cond.static y ∈ wsL_law) (h3 : Cond.initialized y.cls ∈ wsL_law) (h4 : Cond.code y cc maxL ret ∈ wsL_law) : GoodIn (c0 :: wsL_law) (va_wsS RL idx y (Cond.code y cc maxL ret :: wsL_law)) := by
  have key : ∀ w ∈ va_wsS RL idx y (Cond.code y cc maxL ret :: wsL_law), w ∈ wsL_law := by
    intro w hw
    unfold va_wsS at hw
    rcases List.mem_append.mp hw with q | q
    · simp only [List.mem_cons, List.not_mem_nil, or_false] at q
      rcases q with rfl | rfl | rfl
      · exact h1
      · exact h2
      · exact h3
    · rcases List.mem_cons.mp q with rfl | q
      · exact h4
      · exact q
  exact fun w hw => ⟨List.mem_cons_of_mem _ (key w hw), good_of_word (lawGoodM (key w hw))⟩
theorem gqL {idx maxL : Nat} {y : MethodName} {cc : ByteArray} {ret : Option FieldType} (h1 : Cond.methodLink RL idx y ∈ wsL_law) (h2 : Cond.static y ∈ wsL_law) (h3 : Cond.initialized y.cls ∈ wsL_law) (h4 : Cond.code y cc maxL ret ∈ wsL_law) : GoodIn wsL_law (va_wsS RL idx y (Cond.code y cc maxL ret :: wsL_law)) := by
  intro w hw
  obtain ⟨a, b⟩ := gq (c0 := Cond.static y) h1 h2 h3 h4 w hw
  rcases List.mem_cons.mp a with rfl | a
  · exact ⟨h2, b⟩
  · exact ⟨a, b⟩
/-- a list among the law's, behind one word more -/
theorem gq_up {c0 : Cond} {ws : List Cond} (h : ∀ w ∈ ws, w ∈ wsL_law) : GoodIn (c0 :: wsL_law) ws := fun w hw => ⟨List.mem_cons_of_mem _ (h w hw), good_of_word (lawGoodM (h w hw))⟩

abbrev wqL_call : List Cond := Cond.code yL_call cL_call 6 (some .int) :: wsL_law
set_option maxRecDepth 100000 in
theorem hq_call : Cond.methodLink RL 180 yL_call ∈ wsL_law ∧ Cond.static yL_call ∈ wsL_law ∧ Cond.initialized yL_call.cls ∈ wsL_law ∧ Cond.code yL_call cL_call 6 (some .int) ∈ wsL_law := ⟨(lf_wsL_law_4 (List.mem_of_getElem? (i := 11) rfl)), (lf_wsL_law_4 (List.mem_of_getElem? (i := 12) rfl)), (lf_wsL_law_4 (List.mem_of_getElem? (i := 4) rfl)), (lf_wsL_law_4 (List.mem_of_getElem? (i := 13) rfl))⟩
theorem qL_call {c0 : Cond} : GoodIn (c0 :: wsL_law) (va_wsS RL 180 yL_call wqL_call) := gq hq_call.1 hq_call.2.1 hq_call.2.2.1 hq_call.2.2.2
theorem qlL_call : GoodIn wsL_law (va_wsS RL 180 yL_call wqL_call) := gqL hq_call.1 hq_call.2.1 hq_call.2.2.1 hq_call.2.2.2
abbrev wqL_cell : List Cond := Cond.code yL_cell cL_cell 2 (some .int) :: wsL_law
set_option maxRecDepth 100000 in
theorem hq_cell : Cond.methodLink RL 225 yL_cell ∈ wsL_law ∧ Cond.static yL_cell ∈ wsL_law ∧ Cond.initialized yL_cell.cls ∈ wsL_law ∧ Cond.code yL_cell cL_cell 2 (some .int) ∈ wsL_law := ⟨(lf_wsL_law_4 (List.mem_of_getElem? (i := 2) rfl)), (lf_wsL_law_4 (List.mem_of_getElem? (i := 3) rfl)), (lf_wsL_law_4 (List.mem_of_getElem? (i := 4) rfl)), (lf_wsL_law_4 (List.mem_of_getElem? (i := 5) rfl))⟩
theorem qL_cell {c0 : Cond} : GoodIn (c0 :: wsL_law) (va_wsS RL 225 yL_cell wqL_cell) := gq hq_cell.1 hq_cell.2.1 hq_cell.2.2.1 hq_cell.2.2.2
theorem qlL_cell : GoodIn wsL_law (va_wsS RL 225 yL_cell wqL_cell) := gqL hq_cell.1 hq_cell.2.1 hq_cell.2.2.1 hq_cell.2.2.2
abbrev wqL_about : List Cond := Cond.code yL_about cL_about 2 (some .int) :: wsL_law
set_option maxRecDepth 100000 in
theorem hq_about : Cond.methodLink RL 186 yL_about ∈ wsL_law ∧ Cond.static yL_about ∈ wsL_law ∧ Cond.initialized yL_about.cls ∈ wsL_law ∧ Cond.code yL_about cL_about 2 (some .int) ∈ wsL_law := ⟨(lf_wsL_law_25 (List.mem_of_getElem? (i := 7) rfl)), (lf_wsL_law_25 (List.mem_of_getElem? (i := 8) rfl)), (lf_wsL_law_4 (List.mem_of_getElem? (i := 4) rfl)), (lf_wsL_law_25 (List.mem_of_getElem? (i := 9) rfl))⟩
theorem qL_about {c0 : Cond} : GoodIn (c0 :: wsL_law) (va_wsS RL 186 yL_about wqL_about) := gq hq_about.1 hq_about.2.1 hq_about.2.2.1 hq_about.2.2.2
theorem qlL_about : GoodIn wsL_law (va_wsS RL 186 yL_about wqL_about) := gqL hq_about.1 hq_about.2.1 hq_about.2.2.1 hq_about.2.2.2
abbrev wqL_segment : List Cond := Cond.code yL_segment cL_segment 3 (some .int) :: wsL_law
set_option maxRecDepth 100000 in
theorem hq_segment : Cond.methodLink RL 188 yL_segment ∈ wsL_law ∧ Cond.static yL_segment ∈ wsL_law ∧ Cond.initialized yL_segment.cls ∈ wsL_law ∧ Cond.code yL_segment cL_segment 3 (some .int) ∈ wsL_law := ⟨(lf_wsL_law_25 (List.mem_of_getElem? (i := 10) rfl)), (lf_wsL_law_25 (List.mem_of_getElem? (i := 11) rfl)), (lf_wsL_law_4 (List.mem_of_getElem? (i := 4) rfl)), (lf_wsL_law_25 (List.mem_of_getElem? (i := 12) rfl))⟩
theorem qL_segment {c0 : Cond} : GoodIn (c0 :: wsL_law) (va_wsS RL 188 yL_segment wqL_segment) := gq hq_segment.1 hq_segment.2.1 hq_segment.2.2.1 hq_segment.2.2.2
theorem qlL_segment : GoodIn wsL_law (va_wsS RL 188 yL_segment wqL_segment) := gqL hq_segment.1 hq_segment.2.1 hq_segment.2.2.1 hq_segment.2.2.2
abbrev wqL_house : List Cond := Cond.code yL_house cL_house 3 (some .int) :: wsL_law
set_option maxRecDepth 100000 in
theorem hq_house : Cond.methodLink RL 190 yL_house ∈ wsL_law ∧ Cond.static yL_house ∈ wsL_law ∧ Cond.initialized yL_house.cls ∈ wsL_law ∧ Cond.code yL_house cL_house 3 (some .int) ∈ wsL_law := ⟨(lf_wsL_law_25 (List.mem_of_getElem? (i := 13) rfl)), (lf_wsL_law_25 (List.mem_of_getElem? (i := 14) rfl)), (lf_wsL_law_4 (List.mem_of_getElem? (i := 4) rfl)), (lf_wsL_law_25 (List.mem_of_getElem? (i := 15) rfl))⟩
theorem qL_house {c0 : Cond} : GoodIn (c0 :: wsL_law) (va_wsS RL 190 yL_house wqL_house) := gq hq_house.1 hq_house.2.1 hq_house.2.2.1 hq_house.2.2.2
theorem qlL_house : GoodIn wsL_law (va_wsS RL 190 yL_house wqL_house) := gqL hq_house.1 hq_house.2.1 hq_house.2.2.1 hq_house.2.2.2
abbrev wqL_wagon : List Cond := Cond.code yL_wagon cL_wagon 3 (some .int) :: wsL_law
set_option maxRecDepth 100000 in
theorem hq_wagon : Cond.methodLink RL 192 yL_wagon ∈ wsL_law ∧ Cond.static yL_wagon ∈ wsL_law ∧ Cond.initialized yL_wagon.cls ∈ wsL_law ∧ Cond.code yL_wagon cL_wagon 3 (some .int) ∈ wsL_law := ⟨(lf_wsL_law_25 (List.mem_of_getElem? (i := 16) rfl)), (lf_wsL_law_25 (List.mem_of_getElem? (i := 17) rfl)), (lf_wsL_law_4 (List.mem_of_getElem? (i := 4) rfl)), (lf_wsL_law_25 (List.mem_of_getElem? (i := 18) rfl))⟩
theorem qL_wagon {c0 : Cond} : GoodIn (c0 :: wsL_law) (va_wsS RL 192 yL_wagon wqL_wagon) := gq hq_wagon.1 hq_wagon.2.1 hq_wagon.2.2.1 hq_wagon.2.2.2
theorem qlL_wagon : GoodIn wsL_law (va_wsS RL 192 yL_wagon wqL_wagon) := gqL hq_wagon.1 hq_wagon.2.1 hq_wagon.2.2.1 hq_wagon.2.2.2
abbrev wqL_sum : List Cond := Cond.code yL_sum cL_sum 5 (some .long) :: wsL_law
set_option maxRecDepth 100000 in
theorem hq_sum : Cond.methodLink RL 194 yL_sum ∈ wsL_law ∧ Cond.static yL_sum ∈ wsL_law ∧ Cond.initialized yL_sum.cls ∈ wsL_law ∧ Cond.code yL_sum cL_sum 5 (some .long) ∈ wsL_law := ⟨(lf_wsL_law_27 (List.mem_of_getElem? (i := 16) rfl)), (lf_wsL_law_27 (List.mem_of_getElem? (i := 17) rfl)), (lf_wsL_law_4 (List.mem_of_getElem? (i := 4) rfl)), (lf_wsL_law_27 (List.mem_of_getElem? (i := 18) rfl))⟩
theorem qL_sum {c0 : Cond} : GoodIn (c0 :: wsL_law) (va_wsS RL 194 yL_sum wqL_sum) := gq hq_sum.1 hq_sum.2.1 hq_sum.2.2.1 hq_sum.2.2.2
theorem qlL_sum : GoodIn wsL_law (va_wsS RL 194 yL_sum wqL_sum) := gqL hq_sum.1 hq_sum.2.1 hq_sum.2.2.1 hq_sum.2.2.2
abbrev wqL_numbers : List Cond := Cond.code yL_numbers cL_numbers 8 (some .boolean) :: wsL_law
set_option maxRecDepth 100000 in
theorem hq_numbers : Cond.methodLink RL 198 yL_numbers ∈ wsL_law ∧ Cond.static yL_numbers ∈ wsL_law ∧ Cond.initialized yL_numbers.cls ∈ wsL_law ∧ Cond.code yL_numbers cL_numbers 8 (some .boolean) ∈ wsL_law := ⟨(lf_wsL_law_27 (List.mem_of_getElem? (i := 20) rfl)), (lf_wsL_law_27 (List.mem_of_getElem? (i := 21) rfl)), (lf_wsL_law_4 (List.mem_of_getElem? (i := 4) rfl)), (lf_wsL_law_27 (List.mem_of_getElem? (i := 22) rfl))⟩
theorem qL_numbers {c0 : Cond} : GoodIn (c0 :: wsL_law) (va_wsS RL 198 yL_numbers wqL_numbers) := gq hq_numbers.1 hq_numbers.2.1 hq_numbers.2.2.1 hq_numbers.2.2.2
theorem qlL_numbers : GoodIn wsL_law (va_wsS RL 198 yL_numbers wqL_numbers) := gqL hq_numbers.1 hq_numbers.2.1 hq_numbers.2.2.1 hq_numbers.2.2.2
abbrev wqL_latest : List Cond := Cond.code yL_latest cL_latest 3 (some .int) :: wsL_law
set_option maxRecDepth 100000 in
theorem hq_latest : Cond.methodLink RL 202 yL_latest ∈ wsL_law ∧ Cond.static yL_latest ∈ wsL_law ∧ Cond.initialized yL_latest.cls ∈ wsL_law ∧ Cond.code yL_latest cL_latest 3 (some .int) ∈ wsL_law := ⟨(lf_wsL_law_28 (List.mem_of_getElem? (i := 14) rfl)), (lf_wsL_law_28 (List.mem_of_getElem? (i := 15) rfl)), (lf_wsL_law_4 (List.mem_of_getElem? (i := 4) rfl)), (lf_wsL_law_28 (List.mem_of_getElem? (i := 16) rfl))⟩
theorem qL_latest {c0 : Cond} : GoodIn (c0 :: wsL_law) (va_wsS RL 202 yL_latest wqL_latest) := gq hq_latest.1 hq_latest.2.1 hq_latest.2.2.1 hq_latest.2.2.2
theorem qlL_latest : GoodIn wsL_law (va_wsS RL 202 yL_latest wqL_latest) := gqL hq_latest.1 hq_latest.2.1 hq_latest.2.2.1 hq_latest.2.2.2
abbrev wqL_hours : List Cond := Cond.code yL_hours cL_hours 12 (some .boolean) :: wsL_law
set_option maxRecDepth 100000 in
theorem hq_hours : Cond.methodLink RL 239 yL_hours ∈ wsL_law ∧ Cond.static yL_hours ∈ wsL_law ∧ Cond.initialized yL_hours.cls ∈ wsL_law ∧ Cond.code yL_hours cL_hours 12 (some .boolean) ∈ wsL_law := ⟨(lf_wsL_law_27 (List.mem_of_getElem? (i := 23) rfl)), (lf_wsL_law_28 (List.mem_of_getElem? (i := 0) rfl)), (lf_wsL_law_4 (List.mem_of_getElem? (i := 4) rfl)), (lf_wsL_law_28 (List.mem_of_getElem? (i := 1) rfl))⟩
theorem qL_hours {c0 : Cond} : GoodIn (c0 :: wsL_law) (va_wsS RL 239 yL_hours wqL_hours) := gq hq_hours.1 hq_hours.2.1 hq_hours.2.2.1 hq_hours.2.2.2
theorem qlL_hours : GoodIn wsL_law (va_wsS RL 239 yL_hours wqL_hours) := gqL hq_hours.1 hq_hours.2.1 hq_hours.2.2.1 hq_hours.2.2.2
abbrev wqL_limits : List Cond := Cond.code yL_limits cL_limits 10 (some .boolean) :: wsL_law
set_option maxRecDepth 100000 in
theorem hq_limits : Cond.methodLink RL 243 yL_limits ∈ wsL_law ∧ Cond.static yL_limits ∈ wsL_law ∧ Cond.initialized yL_limits.cls ∈ wsL_law ∧ Cond.code yL_limits cL_limits 10 (some .boolean) ∈ wsL_law := ⟨(lf_wsL_law_28 (List.mem_of_getElem? (i := 2) rfl)), (lf_wsL_law_28 (List.mem_of_getElem? (i := 3) rfl)), (lf_wsL_law_4 (List.mem_of_getElem? (i := 4) rfl)), (lf_wsL_law_28 (List.mem_of_getElem? (i := 4) rfl))⟩
theorem qL_limits {c0 : Cond} : GoodIn (c0 :: wsL_law) (va_wsS RL 243 yL_limits wqL_limits) := gq hq_limits.1 hq_limits.2.1 hq_limits.2.2.1 hq_limits.2.2.2
theorem qlL_limits : GoodIn wsL_law (va_wsS RL 243 yL_limits wqL_limits) := gqL hq_limits.1 hq_limits.2.1 hq_limits.2.2.1 hq_limits.2.2.2
abbrev wqL_water : List Cond := Cond.code yL_water cL_water 10 (some .boolean) :: wsL_law
set_option maxRecDepth 100000 in
theorem hq_water : Cond.methodLink RL 246 yL_water ∈ wsL_law ∧ Cond.static yL_water ∈ wsL_law ∧ Cond.initialized yL_water.cls ∈ wsL_law ∧ Cond.code yL_water cL_water 10 (some .boolean) ∈ wsL_law := ⟨(lf_wsL_law_28 (List.mem_of_getElem? (i := 5) rfl)), (lf_wsL_law_28 (List.mem_of_getElem? (i := 6) rfl)), (lf_wsL_law_4 (List.mem_of_getElem? (i := 4) rfl)), (lf_wsL_law_28 (List.mem_of_getElem? (i := 7) rfl))⟩
theorem qL_water {c0 : Cond} : GoodIn (c0 :: wsL_law) (va_wsS RL 246 yL_water wqL_water) := gq hq_water.1 hq_water.2.1 hq_water.2.2.1 hq_water.2.2.2
theorem qlL_water : GoodIn wsL_law (va_wsS RL 246 yL_water wqL_water) := gqL hq_water.1 hq_water.2.1 hq_water.2.2.1 hq_water.2.2.2
abbrev wqL_bySpray : List Cond := Cond.code yL_bySpray cL_bySpray 5 (some .int) :: wsL_law
set_option maxRecDepth 100000 in
theorem hq_bySpray : Cond.methodLink RL 205 yL_bySpray ∈ wsL_law ∧ Cond.static yL_bySpray ∈ wsL_law ∧ Cond.initialized yL_bySpray.cls ∈ wsL_law ∧ Cond.code yL_bySpray cL_bySpray 5 (some .int) ∈ wsL_law := ⟨(lf_wsL_law_28 (List.mem_of_getElem? (i := 11) rfl)), (lf_wsL_law_28 (List.mem_of_getElem? (i := 12) rfl)), (lf_wsL_law_4 (List.mem_of_getElem? (i := 4) rfl)), (lf_wsL_law_28 (List.mem_of_getElem? (i := 13) rfl))⟩
theorem qL_bySpray {c0 : Cond} : GoodIn (c0 :: wsL_law) (va_wsS RL 205 yL_bySpray wqL_bySpray) := gq hq_bySpray.1 hq_bySpray.2.1 hq_bySpray.2.2.1 hq_bySpray.2.2.2
theorem qlL_bySpray : GoodIn wsL_law (va_wsS RL 205 yL_bySpray wqL_bySpray) := gqL hq_bySpray.1 hq_bySpray.2.1 hq_bySpray.2.2.1 hq_bySpray.2.2.2
abbrev wqL_sprays : List Cond := Cond.code yL_sprays cL_sprays 10 (some .boolean) :: wsL_law
set_option maxRecDepth 100000 in
theorem hq_sprays : Cond.methodLink RL 249 yL_sprays ∈ wsL_law ∧ Cond.static yL_sprays ∈ wsL_law ∧ Cond.initialized yL_sprays.cls ∈ wsL_law ∧ Cond.code yL_sprays cL_sprays 10 (some .boolean) ∈ wsL_law := ⟨(lf_wsL_law_28 (List.mem_of_getElem? (i := 8) rfl)), (lf_wsL_law_28 (List.mem_of_getElem? (i := 9) rfl)), (lf_wsL_law_4 (List.mem_of_getElem? (i := 4) rfl)), (lf_wsL_law_28 (List.mem_of_getElem? (i := 10) rfl))⟩
theorem qL_sprays {c0 : Cond} : GoodIn (c0 :: wsL_law) (va_wsS RL 249 yL_sprays wqL_sprays) := gq hq_sprays.1 hq_sprays.2.1 hq_sprays.2.2.1 hq_sprays.2.2.2
theorem qlL_sprays : GoodIn wsL_law (va_wsS RL 249 yL_sprays wqL_sprays) := gqL hq_sprays.1 hq_sprays.2.1 hq_sprays.2.2.1 hq_sprays.2.2.2
abbrev wqL_fills : List Cond := Cond.code yL_fills cL_fills 10 (some .boolean) :: wsL_law
set_option maxRecDepth 100000 in
theorem hq_fills : Cond.methodLink RL 252 yL_fills ∈ wsL_law ∧ Cond.static yL_fills ∈ wsL_law ∧ Cond.initialized yL_fills.cls ∈ wsL_law ∧ Cond.code yL_fills cL_fills 10 (some .boolean) ∈ wsL_law := ⟨(lf_wsL_law_28 (List.mem_of_getElem? (i := 17) rfl)), (lf_wsL_law_28 (List.mem_of_getElem? (i := 18) rfl)), (lf_wsL_law_4 (List.mem_of_getElem? (i := 4) rfl)), (lf_wsL_law_28 (List.mem_of_getElem? (i := 19) rfl))⟩
theorem qL_fills {c0 : Cond} : GoodIn (c0 :: wsL_law) (va_wsS RL 252 yL_fills wqL_fills) := gq hq_fills.1 hq_fills.2.1 hq_fills.2.2.1 hq_fills.2.2.2
theorem qlL_fills : GoodIn wsL_law (va_wsS RL 252 yL_fills wqL_fills) := gqL hq_fills.1 hq_fills.2.1 hq_fills.2.2.1 hq_fills.2.2.2
abbrev wqL_fails : List Cond := Cond.code yL_fails cL_fails 4 (some .boolean) :: wsL_law
set_option maxRecDepth 100000 in
theorem hq_fails : Cond.methodLink RL 233 yL_fails ∈ wsL_law ∧ Cond.static yL_fails ∈ wsL_law ∧ Cond.initialized yL_fails.cls ∈ wsL_law ∧ Cond.code yL_fails cL_fails 4 (some .boolean) ∈ wsL_law := ⟨(lf_wsL_law_25 (List.mem_of_getElem? (i := 2) rfl)), (lf_wsL_law_25 (List.mem_of_getElem? (i := 3) rfl)), (lf_wsL_law_4 (List.mem_of_getElem? (i := 4) rfl)), (lf_wsL_law_25 (List.mem_of_getElem? (i := 4) rfl))⟩
theorem qL_fails {c0 : Cond} : GoodIn (c0 :: wsL_law) (va_wsS RL 233 yL_fails wqL_fails) := gq hq_fails.1 hq_fails.2.1 hq_fails.2.2.1 hq_fails.2.2.2
theorem qlL_fails : GoodIn wsL_law (va_wsS RL 233 yL_fails wqL_fails) := gqL hq_fails.1 hq_fails.2.1 hq_fails.2.2.1 hq_fails.2.2.2
abbrev wqL_act : List Cond := Cond.code yL_act cL_act 5 (some .int) :: wsL_law
set_option maxRecDepth 100000 in
theorem hq_act : Cond.methodLink RL 236 yL_act ∈ wsL_law ∧ Cond.static yL_act ∈ wsL_law ∧ Cond.initialized yL_act.cls ∈ wsL_law ∧ Cond.code yL_act cL_act 5 (some .int) ∈ wsL_law := ⟨(lf_wsL_law_27 (List.mem_of_getElem? (i := 13) rfl)), (lf_wsL_law_27 (List.mem_of_getElem? (i := 14) rfl)), (lf_wsL_law_4 (List.mem_of_getElem? (i := 4) rfl)), (lf_wsL_law_27 (List.mem_of_getElem? (i := 15) rfl))⟩
theorem qL_act {c0 : Cond} : GoodIn (c0 :: wsL_law) (va_wsS RL 236 yL_act wqL_act) := gq hq_act.1 hq_act.2.1 hq_act.2.2.1 hq_act.2.2.2
theorem qlL_act : GoodIn wsL_law (va_wsS RL 236 yL_act wqL_act) := gqL hq_act.1 hq_act.2.1 hq_act.2.2.1 hq_act.2.2.2
abbrev wqL_begin : List Cond := Cond.code yL_begin cL_begin 5 (some .boolean) :: wsL_law
set_option maxRecDepth 100000 in
theorem hq_begin : Cond.methodLink RL 229 yL_begin ∈ wsL_law ∧ Cond.static yL_begin ∈ wsL_law ∧ Cond.initialized yL_begin.cls ∈ wsL_law ∧ Cond.code yL_begin cL_begin 5 (some .boolean) ∈ wsL_law := ⟨(lf_wsL_law_4 (List.mem_of_getElem? (i := 8) rfl)), (lf_wsL_law_4 (List.mem_of_getElem? (i := 9) rfl)), (lf_wsL_law_4 (List.mem_of_getElem? (i := 4) rfl)), (lf_wsL_law_4 (List.mem_of_getElem? (i := 10) rfl))⟩
theorem qL_begin {c0 : Cond} : GoodIn (c0 :: wsL_law) (va_wsS RL 229 yL_begin wqL_begin) := gq hq_begin.1 hq_begin.2.1 hq_begin.2.2.1 hq_begin.2.2.2
theorem qlL_begin : GoodIn wsL_law (va_wsS RL 229 yL_begin wqL_begin) := gqL hq_begin.1 hq_begin.2.1 hq_begin.2.2.1 hq_begin.2.2.2
theorem hq_tryAppend : ∀ w ∈ va_wsS RL 101 yL_tryAppend wsL_tryAppend, w ∈ wsL_law := fun w hw => iw_call w (gL_call_L_tryAppend w hw).1
theorem qL_tryAppend {c0 : Cond} : GoodIn (c0 :: wsL_law) (va_wsS RL 101 yL_tryAppend wsL_tryAppend) := gq_up hq_tryAppend
theorem hq_tryLoad : ∀ w ∈ va_wsS RL 107 yL_tryLoad wsL_tryLoad, w ∈ wsL_law := fun w hw => iw_call w (gL_call_L_tryLoad w hw).1
theorem qL_tryLoad {c0 : Cond} : GoodIn (c0 :: wsL_law) (va_wsS RL 107 yL_tryLoad wsL_tryLoad) := gq_up hq_tryLoad
theorem hq_tryAbout : ∀ w ∈ va_wsS RL 111 yL_tryAbout wsL_tryAbout, w ∈ wsL_law := fun w hw => iw_call w (gL_call_L_tryAbout w hw).1
theorem qL_tryAbout {c0 : Cond} : GoodIn (c0 :: wsL_law) (va_wsS RL 111 yL_tryAbout wsL_tryAbout) := gq_up hq_tryAbout
theorem hq_trySegment : ∀ w ∈ va_wsS RL 114 yL_trySegment wsL_trySegment, w ∈ wsL_law := fun w hw => iw_call w (gL_call_L_trySegment w hw).1
theorem qL_trySegment {c0 : Cond} : GoodIn (c0 :: wsL_law) (va_wsS RL 114 yL_trySegment wsL_trySegment) := gq_up hq_trySegment
theorem hq_tryHouse : ∀ w ∈ va_wsS RL 118 yL_tryHouse wsL_tryHouse, w ∈ wsL_law := fun w hw => iw_call w (gL_call_L_tryHouse w hw).1
theorem qL_tryHouse {c0 : Cond} : GoodIn (c0 :: wsL_law) (va_wsS RL 118 yL_tryHouse wsL_tryHouse) := gq_up hq_tryHouse
theorem hq_tryWagon : ∀ w ∈ va_wsS RL 121 yL_tryWagon wsL_tryWagon, w ∈ wsL_law := fun w hw => iw_call w (gL_call_L_tryWagon w hw).1
theorem qL_tryWagon {c0 : Cond} : GoodIn (c0 :: wsL_law) (va_wsS RL 121 yL_tryWagon wsL_tryWagon) := gq_up hq_tryWagon
theorem hq_tryBuild : ∀ w ∈ va_wsS RL 124 yL_tryBuild wsL_tryBuild, w ∈ wsL_law := fun w hw => iw_call w (gL_call_L_tryBuild w hw).1
theorem qL_tryBuild {c0 : Cond} : GoodIn (c0 :: wsL_law) (va_wsS RL 124 yL_tryBuild wsL_tryBuild) := gq_up hq_tryBuild
theorem hq_tryBring : ∀ w ∈ va_wsS RL 127 yL_tryBring wsL_tryBring, w ∈ wsL_law := fun w hw => iw_call w (gL_call_L_tryBring w hw).1
theorem qL_tryBring {c0 : Cond} : GoodIn (c0 :: wsL_law) (va_wsS RL 127 yL_tryBring wsL_tryBring) := gq_up hq_tryBring
theorem hq_trySurface : ∀ w ∈ va_wsS RL 130 yL_trySurface wsL_trySurface, w ∈ wsL_law := fun w hw => iw_call w (gL_call_L_trySurface w hw).1
theorem qL_trySurface {c0 : Cond} : GoodIn (c0 :: wsL_law) (va_wsS RL 130 yL_trySurface wsL_trySurface) := gq_up hq_trySurface
theorem hq_tryLimit : ∀ w ∈ va_wsS RL 133 yL_tryLimit wsL_tryLimit, w ∈ wsL_law := fun w hw => iw_call w (gL_call_L_tryLimit w hw).1
theorem qL_tryLimit {c0 : Cond} : GoodIn (c0 :: wsL_law) (va_wsS RL 133 yL_tryLimit wsL_tryLimit) := gq_up hq_tryLimit
theorem hq_trySet : ∀ w ∈ va_wsS RL 136 yL_trySet wsL_trySet, w ∈ wsL_law := fun w hw => iw_call w (gL_call_L_trySet w hw).1
theorem qL_trySet {c0 : Cond} : GoodIn (c0 :: wsL_law) (va_wsS RL 136 yL_trySet wsL_trySet) := gq_up hq_trySet
theorem hq_tryDrive : ∀ w ∈ va_wsS RL 139 yL_tryDrive wsL_tryDrive, w ∈ wsL_law := fun w hw => iw_call w (gL_call_L_tryDrive w hw).1
theorem qL_tryDrive {c0 : Cond} : GoodIn (c0 :: wsL_law) (va_wsS RL 139 yL_tryDrive wsL_tryDrive) := gq_up hq_tryDrive
theorem hq_trySpray : ∀ w ∈ va_wsS RL 142 yL_trySpray wsL_trySpray, w ∈ wsL_law := fun w hw => iw_call w (gL_call_L_trySpray w hw).1
theorem qL_trySpray {c0 : Cond} : GoodIn (c0 :: wsL_law) (va_wsS RL 142 yL_trySpray wsL_trySpray) := gq_up hq_trySpray
theorem hq_tryFill : ∀ w ∈ va_wsS RL 145 yL_tryFill wsL_tryFill, w ∈ wsL_law := fun w hw => iw_call w (gL_call_L_tryFill w hw).1
theorem qL_tryFill {c0 : Cond} : GoodIn (c0 :: wsL_law) (va_wsS RL 145 yL_tryFill wsL_tryFill) := gq_up hq_tryFill
theorem hq_tryPass : ∀ w ∈ va_wsS RL 148 yL_tryPass wsL_tryPass, w ∈ wsL_law := fun w hw => iw_call w (gL_call_L_tryPass w hw).1
theorem qL_tryPass {c0 : Cond} : GoodIn (c0 :: wsL_law) (va_wsS RL 148 yL_tryPass wsL_tryPass) := gq_up hq_tryPass
theorem hq_tryUndo : ∀ w ∈ va_wsS RL 151 yL_tryUndo wsL_tryUndo, w ∈ wsL_law := fun w hw => iw_call w (gL_call_L_tryUndo w hw).1
theorem qL_tryUndo {c0 : Cond} : GoodIn (c0 :: wsL_law) (va_wsS RL 151 yL_tryUndo wsL_tryUndo) := gq_up hq_tryUndo
theorem hq_tryWhy : ∀ w ∈ va_wsS RL 154 yL_tryWhy wsL_tryWhy, w ∈ wsL_law := fun w hw => iw_call w (gL_call_L_tryWhy w hw).1
theorem qL_tryWhy {c0 : Cond} : GoodIn (c0 :: wsL_law) (va_wsS RL 154 yL_tryWhy wsL_tryWhy) := gq_up hq_tryWhy
theorem hq_tryAhead : ∀ w ∈ va_wsS RL 157 yL_tryAhead wsL_tryAhead, w ∈ wsL_law := fun w hw => iw_call w (gL_call_L_tryAhead w hw).1
theorem qL_tryAhead {c0 : Cond} : GoodIn (c0 :: wsL_law) (va_wsS RL 157 yL_tryAhead wsL_tryAhead) := gq_up hq_tryAhead
theorem hq_tryWater : ∀ w ∈ va_wsS RL 160 yL_tryWater wsL_tryWater, w ∈ wsL_law := fun w hw => iw_call w (gL_call_L_tryWater w hw).1
theorem qL_tryWater {c0 : Cond} : GoodIn (c0 :: wsL_law) (va_wsS RL 160 yL_tryWater wsL_tryWater) := gq_up hq_tryWater
theorem hq_trySlow : ∀ w ∈ va_wsS RL 163 yL_trySlow wsL_trySlow, w ∈ wsL_law := fun w hw => iw_call w (gL_call_L_trySlow w hw).1
theorem qL_trySlow {c0 : Cond} : GoodIn (c0 :: wsL_law) (va_wsS RL 163 yL_trySlow wsL_trySlow) := gq_up hq_trySlow
theorem hq_tryBest : ∀ w ∈ va_wsS RL 166 yL_tryBest wsL_tryBest, w ∈ wsL_law := fun w hw => iw_call w (gL_call_L_tryBest w hw).1
theorem qL_tryBest {c0 : Cond} : GoodIn (c0 :: wsL_law) (va_wsS RL 166 yL_tryBest wsL_tryBest) := gq_up hq_tryBest
theorem hq_tryWhen : ∀ w ∈ va_wsS RL 169 yL_tryWhen wsL_tryWhen, w ∈ wsL_law := fun w hw => iw_call w (gL_call_L_tryWhen w hw).1
theorem qL_tryWhen {c0 : Cond} : GoodIn (c0 :: wsL_law) (va_wsS RL 169 yL_tryWhen wsL_tryWhen) := gq_up hq_tryWhen
set_option maxRecDepth 100000 in
theorem hq_trySave : ∀ w ∈ va_wsS RL 172 yL_trySave wsL_trySave, w ∈ wsL_law := by
  intro w hw
  unfold va_wsS at hw
  rcases List.mem_append.mp hw with q | q
  · simp only [List.mem_cons, List.not_mem_nil, or_false] at q
    rcases q with rfl | rfl | rfl
    · exact (lf_wsL_law_24 (List.mem_of_getElem? (i := 4) rfl))
    · exact (lf_wsL_law_24 (List.mem_of_getElem? (i := 5) rfl))
    · exact (lf_wsL_law_4 (List.mem_of_getElem? (i := 4) rfl))
  · exact iw_trySave w q
theorem qL_trySave {c0 : Cond} : GoodIn (c0 :: wsL_law) (va_wsS RL 172 yL_trySave wsL_trySave) := gq_up hq_trySave
set_option maxRecDepth 100000 in
theorem hq_tryRestore : ∀ w ∈ va_wsS RL 175 yL_tryRestore wsL_tryRestore, w ∈ wsL_law := by
  intro w hw
  unfold va_wsS at hw
  rcases List.mem_append.mp hw with q | q
  · simp only [List.mem_cons, List.not_mem_nil, or_false] at q
    rcases q with rfl | rfl | rfl
    · exact (lf_wsL_law_24 (List.mem_of_getElem? (i := 15) rfl))
    · exact (lf_wsL_law_24 (List.mem_of_getElem? (i := 16) rfl))
    · exact (lf_wsL_law_4 (List.mem_of_getElem? (i := 4) rfl))
  · exact iw_tryRestore w q
theorem qL_tryRestore {c0 : Cond} : GoodIn (c0 :: wsL_law) (va_wsS RL 175 yL_tryRestore wsL_tryRestore) := gq_up hq_tryRestore
set_option maxRecDepth 100000 in
theorem hq_tryScript : ∀ w ∈ va_wsS RL 209 yL_tryScript wsL_tryScript, w ∈ wsL_law := by
  intro w hw
  unfold va_wsS at hw
  rcases List.mem_append.mp hw with q | q
  · simp only [List.mem_cons, List.not_mem_nil, or_false] at q
    rcases q with rfl | rfl | rfl
    · exact (lf_wsL_law_25 (List.mem_of_getElem? (i := 19) rfl))
    · exact (lf_wsL_law_25 (List.mem_of_getElem? (i := 20) rfl))
    · exact (lf_wsL_law_4 (List.mem_of_getElem? (i := 4) rfl))
  · exact iw_tryScript w q
theorem qL_tryScript {c0 : Cond} : GoodIn (c0 :: wsL_law) (va_wsS RL 209 yL_tryScript wsL_tryScript) := gq_up hq_tryScript
set_option maxRecDepth 100000 in
theorem hq_trySimulate : ∀ w ∈ va_wsS RL 217 yL_trySimulate wsL_trySimulate, w ∈ wsL_law := by
  intro w hw
  unfold va_wsS at hw
  rcases List.mem_append.mp hw with q | q
  · simp only [List.mem_cons, List.not_mem_nil, or_false] at q
    rcases q with rfl | rfl | rfl
    · exact (lf_wsL_law_26 (List.mem_of_getElem? (i := 22) rfl))
    · exact (lf_wsL_law_26 (List.mem_of_getElem? (i := 23) rfl))
    · exact (lf_wsL_law_4 (List.mem_of_getElem? (i := 4) rfl))
  · exact iw_trySimulate w q
theorem qL_trySimulate {c0 : Cond} : GoodIn (c0 :: wsL_law) (va_wsS RL 217 yL_trySimulate wsL_trySimulate) := gq_up hq_trySimulate
