def B0 : List Cond := [Cond.classLink "ImageGcds" 137 th_X, Cond.initialized th_X, Cond.fieldLink "ImageGcds" 19 "ImageGcds" "made" "I", Cond.methodLink "ImageGcds" 32 yG_held, Cond.instanceMethod yG_held, Cond.selects "ImageGcds" yG_held yG_held, Cond.initialized "ImageGcds", Cond.code yG_held bG_held 2 (some (.object "ImageGcds$Poly")), Cond.classLink "ImageGcdsLaw" 19 th_X, Cond.methodLink "ImageGcdsLaw" 15 yG_term, Cond.instanceMethod yG_term, Cond.selects "ImageGcds" yG_term yG_term, Cond.code yG_term bG_term 10 (some .boolean), Cond.methodLink "ImageGcdsLaw" 25 yG_add, Cond.instanceMethod yG_add, Cond.selects "ImageGcds" yG_add yG_add, Cond.code yG_add bG_add 5 (some .int), Cond.methodLink "ImageGcdsLaw" 29 yG_times, Cond.instanceMethod yG_times, Cond.selects "ImageGcds" yG_times yG_times]
def B1 : List Cond := [Cond.code yG_times bG_times 5 (some .int), Cond.methodLink "ImageGcdsLaw" 32 yG_over, Cond.instanceMethod yG_over, Cond.selects "ImageGcds" yG_over yG_over, Cond.code yG_over bG_over 6 (some .int), Cond.methodLink "ImageGcdsLaw" 35 yG_gcd, Cond.instanceMethod yG_gcd, Cond.selects "ImageGcds" yG_gcd yG_gcd, Cond.code yG_gcd bG_gcd 5 (some .int), Cond.methodLink "ImageGcdsLaw" 38 yG_resultant, Cond.instanceMethod yG_resultant, Cond.selects "ImageGcds" yG_resultant yG_resultant, Cond.code yG_resultant bG_resultant 6 (some .int), Cond.methodLink "ImageGcdsLaw" 42 yG_slope, Cond.instanceMethod yG_slope, Cond.selects "ImageGcds" yG_slope yG_slope, Cond.code yG_slope bG_slope 4 (some .int), Cond.methodLink "ImageGcdsLaw" 45 yG_content, Cond.instanceMethod yG_content, Cond.selects "ImageGcds" yG_content yG_content]
def B2 : List Cond := [Cond.code yG_content bG_content 4 (some .int), Cond.methodLink "ImageGcdsLaw" 48 yG_part, Cond.instanceMethod yG_part, Cond.selects "ImageGcds" yG_part yG_part, Cond.code yG_part bG_part 4 (some .int), Cond.methodLink "ImageGcdsLaw" 51 yG_image, Cond.instanceMethod yG_image, Cond.selects "ImageGcds" yG_image yG_image, Cond.code yG_image bG_image 5 (some .int), Cond.methodLink "ImageGcdsLaw" 54 yG_equal, Cond.instanceMethod yG_equal, Cond.selects "ImageGcds" yG_equal yG_equal, Cond.code yG_equal bG_equal 5 (some .boolean), Cond.methodLink "ImageGcdsLaw" 58 yG_terms, Cond.instanceMethod yG_terms, Cond.selects "ImageGcds" yG_terms yG_terms, Cond.code yG_terms bG_terms 2 (some .int), Cond.methodLink "ImageGcdsLaw" 62 yG_at, Cond.instanceMethod yG_at, Cond.selects "ImageGcds" yG_at yG_at]
def B3 : List Cond := [Cond.code yG_at bG_at 5 (some .int), Cond.methodLink "ImageGcdsLaw" 65 yG_degree, Cond.instanceMethod yG_degree, Cond.selects "ImageGcds" yG_degree yG_degree, Cond.code yG_degree bG_degree 4 (some .int), Cond.constantLong "ImageGcdsModel" 72 (32003), Cond.fieldLink "ImageGcdsModel" 223 "ImageGcdsModel" "count" "I", Cond.fieldLink "ImageGcdsModel" 65 "ImageGcdsModel" "letters" "I", Cond.methodLink "ImageGcdsModel" 226 yM_isPoly, Cond.instanceMethod yM_isPoly, Cond.selects "ImageGcdsModel" yM_isPoly yM_isPoly, Cond.initialized "ImageGcdsModel", Cond.code yM_isPoly bM_isPoly 2 (some .boolean), Cond.fieldLink "ImageGcdsModel" 69 "ImageGcdsModel" "thrown" "I", Cond.methodLink "ImageGcdsModel" 240 yM_number, Cond.static yM_number, Cond.code yM_number bM_number 3 (some .int), Cond.methodLink "ImageGcdsModel" 233 yM_fails, Cond.instanceMethod yM_fails, Cond.selects "ImageGcdsModel" yM_fails yM_fails]
def B4 : List Cond := [Cond.code yM_fails bM_fails 4 (some .boolean), Cond.methodLink "ImageGcdsModel" 244 yM_areNot, Cond.instanceMethod yM_areNot, Cond.selects "ImageGcdsModel" yM_areNot yM_areNot, Cond.code yM_areNot bM_areNot 3 (some .boolean), Cond.methodLink "ImageGcdsModel" 229 yM_isFull, Cond.instanceMethod yM_isFull, Cond.selects "ImageGcdsModel" yM_isFull yM_isFull, Cond.code yM_isFull bM_isFull 1 (some .boolean), Cond.methodLink "ImageGcdsModel" 268 yM_isLetter, Cond.instanceMethod yM_isLetter, Cond.selects "ImageGcdsModel" yM_isLetter yM_isLetter, Cond.code yM_isLetter bM_isLetter 2 (some .boolean), Cond.methodLink "ImageGcds" 1 Lib.objectInit, Cond.instanceMethod Lib.objectInit, Cond.code Lib.objectInit ⟨#[0xb1]⟩ 1 none, Cond.fieldLink "ImageGcds" 9 "ImageGcds" "letters" "I", Cond.classLink "ImageGcds" 13 "ImageGcds$Poly", Cond.fieldLink "ImageGcds" 15 "ImageGcds" "polys" "[LImageGcds$Poly;", Cond.methodLink "ImageGcdsModel" 1 Lib.objectInit]
def B5 : List Cond := [Cond.constant "ImageGcdsModel" 7 (290816), Cond.arrayClass .int, Cond.fieldLink "ImageGcdsModel" 8 "ImageGcdsModel" "n" "[I", Cond.fieldLink "ImageGcdsModel" 14 "ImageGcdsModel" "two" "[I", Cond.fieldLink "ImageGcdsModel" 17 "ImageGcdsModel" "a" "[I", Cond.fieldLink "ImageGcdsModel" 20 "ImageGcdsModel" "b" "[I", Cond.fieldLink "ImageGcdsModel" 23 "ImageGcdsModel" "c" "[I", Cond.fieldLink "ImageGcdsModel" 26 "ImageGcdsModel" "point" "[I", Cond.fieldLink "ImageGcdsModel" 29 "ImageGcdsModel" "given" "[I", Cond.fieldLink "ImageGcdsModel" 32 "ImageGcdsModel" "whole" "[I", Cond.fieldLink "ImageGcdsModel" 35 "ImageGcdsModel" "pointsTwo" "[I", Cond.fieldLink "ImageGcdsModel" 38 "ImageGcdsModel" "valuesTwo" "[I", Cond.fieldLink "ImageGcdsModel" 41 "ImageGcdsModel" "pointsY" "[I", Cond.fieldLink "ImageGcdsModel" 44 "ImageGcdsModel" "valuesY" "[I", Cond.fieldLink "ImageGcdsModel" 47 "ImageGcdsModel" "pointsZ" "[I", Cond.fieldLink "ImageGcdsModel" 50 "ImageGcdsModel" "valuesZ" "[I", Cond.fieldLink "ImageGcdsModel" 53 "ImageGcdsModel" "grid" "[I", Cond.fieldLink "ImageGcdsModel" 56 "ImageGcdsModel" "planeA" "[I", Cond.fieldLink "ImageGcdsModel" 59 "ImageGcdsModel" "planeB" "[I", Cond.fieldLink "ImageGcdsModel" 62 "ImageGcdsModel" "matrix" "[I"]
def B6 : List Cond := [Cond.methodLink "ImageGcds$Poly" 3 Lib.objectInit, Cond.fieldLink "ImageGcds$Poly" 9 "ImageGcds$Poly" "size" "I", Cond.fieldLink "ImageGcds$Poly" 15 "ImageGcds$Poly" "keys" "[I", Cond.fieldLink "ImageGcds$Poly" 19 "ImageGcds$Poly" "numbers" "[I", Cond.methodLink "ImageGcdsModel" 99 yM_copy, Cond.instanceMethod yM_copy, Cond.selects "ImageGcdsModel" yM_copy yM_copy, Cond.code yM_copy bM_copy 4 none, Cond.methodLink "ImageGcdsModel" 95 yM_clear, Cond.instanceMethod yM_clear, Cond.selects "ImageGcdsModel" yM_clear yM_clear, Cond.code yM_clear bM_clear 3 none, Cond.methodLink "ImageGcdsModel" 237 yM_made, Cond.instanceMethod yM_made, Cond.selects "ImageGcdsModel" yM_made yM_made, Cond.code yM_made bM_made 2 (some .int), Cond.methodLink "ImageGcds" 22 yG_requireRoom, Cond.instanceMethod yG_requireRoom, Cond.selects "ImageGcds" yG_requireRoom yG_requireRoom, Cond.code yG_requireRoom bG_requireRoom 1 none]
def B7 : List Cond := [Cond.instantiable "ImageGcds$Poly" 3, Cond.initialized "ImageGcds$Poly", Cond.code yP_init bP_init 3 none, Cond.methodLink "ImageGcds" 25 yP_init, Cond.instanceMethod yP_init, Cond.methodLink "ImageGcds" 28 yG_keep, Cond.instanceMethod yG_keep, Cond.selects "ImageGcds" yG_keep yG_keep, Cond.code yG_keep bG_keep 2 (some .int), Cond.methodLink "ImageGcdsLaw" 7 yG_poly, Cond.instanceMethod yG_poly, Cond.selects "ImageGcds" yG_poly yG_poly, Cond.code yG_poly bG_poly 1 (some .int)]
def thW : List Cond := (Bundle.ownAtoms "ImageGcds" 141 th_X th_N).filter goodWord
def W0 : List Cond := B0 ++ (B1 ++ (B2 ++ (B3 ++ (B4 ++ (B5 ++ (B6 ++ (B7 ++ (wUG ++ (wUP ++ (wUM ++ (thW)))))))))))
theorem k0 : Cond.classLink "ImageGcds" 137 th_X ∈ W0 := (List.mem_append_left _ (List.mem_of_getElem? (l := B0) (i := 0) rfl))
theorem k1 : Cond.initialized th_X ∈ W0 := (List.mem_append_left _ (List.mem_of_getElem? (l := B0) (i := 1) rfl))
theorem k2 : Cond.fieldLink "ImageGcds" 19 "ImageGcds" "made" "I" ∈ W0 := (List.mem_append_left _ (List.mem_of_getElem? (l := B0) (i := 2) rfl))
theorem k3 : Cond.methodLink "ImageGcds" 32 yG_held ∈ W0 := (List.mem_append_left _ (List.mem_of_getElem? (l := B0) (i := 3) rfl))
theorem k4 : Cond.instanceMethod yG_held ∈ W0 := (List.mem_append_left _ (List.mem_of_getElem? (l := B0) (i := 4) rfl))
theorem k5 : Cond.selects "ImageGcds" yG_held yG_held ∈ W0 := (List.mem_append_left _ (List.mem_of_getElem? (l := B0) (i := 5) rfl))
theorem k6 : Cond.initialized "ImageGcds" ∈ W0 := (List.mem_append_left _ (List.mem_of_getElem? (l := B0) (i := 6) rfl))
theorem k7 : Cond.code yG_held bG_held 2 (some (.object "ImageGcds$Poly")) ∈ W0 := (List.mem_append_left _ (List.mem_of_getElem? (l := B0) (i := 7) rfl))
theorem k8 : Cond.classLink "ImageGcdsLaw" 19 th_X ∈ W0 := (List.mem_append_left _ (List.mem_of_getElem? (l := B0) (i := 8) rfl))
theorem k9 : Cond.methodLink "ImageGcdsLaw" 15 yG_term ∈ W0 := (List.mem_append_left _ (List.mem_of_getElem? (l := B0) (i := 9) rfl))
theorem k10 : Cond.instanceMethod yG_term ∈ W0 := (List.mem_append_left _ (List.mem_of_getElem? (l := B0) (i := 10) rfl))
theorem k11 : Cond.selects "ImageGcds" yG_term yG_term ∈ W0 := (List.mem_append_left _ (List.mem_of_getElem? (l := B0) (i := 11) rfl))
theorem k12 : Cond.code yG_term bG_term 10 (some .boolean) ∈ W0 := (List.mem_append_left _ (List.mem_of_getElem? (l := B0) (i := 12) rfl))
theorem k13 : Cond.methodLink "ImageGcdsLaw" 25 yG_add ∈ W0 := (List.mem_append_left _ (List.mem_of_getElem? (l := B0) (i := 13) rfl))
theorem k14 : Cond.instanceMethod yG_add ∈ W0 := (List.mem_append_left _ (List.mem_of_getElem? (l := B0) (i := 14) rfl))
theorem k15 : Cond.selects "ImageGcds" yG_add yG_add ∈ W0 := (List.mem_append_left _ (List.mem_of_getElem? (l := B0) (i := 15) rfl))
theorem k16 : Cond.code yG_add bG_add 5 (some .int) ∈ W0 := (List.mem_append_left _ (List.mem_of_getElem? (l := B0) (i := 16) rfl))
theorem k17 : Cond.methodLink "ImageGcdsLaw" 29 yG_times ∈ W0 := (List.mem_append_left _ (List.mem_of_getElem? (l := B0) (i := 17) rfl))
theorem k18 : Cond.instanceMethod yG_times ∈ W0 := (List.mem_append_left _ (List.mem_of_getElem? (l := B0) (i := 18) rfl))
theorem k19 : Cond.selects "ImageGcds" yG_times yG_times ∈ W0 := (List.mem_append_left _ (List.mem_of_getElem? (l := B0) (i := 19) rfl))
theorem k20 : Cond.code yG_times bG_times 5 (some .int) ∈ W0 := (List.mem_append_right _ (List.mem_append_left _ (List.mem_of_getElem? (l := B1) (i := 0) rfl)))
theorem k21 : Cond.methodLink "ImageGcdsLaw" 32 yG_over ∈ W0 := (List.mem_append_right _ (List.mem_append_left _ (List.mem_of_getElem? (l := B1) (i := 1) rfl)))
theorem k22 : Cond.instanceMethod yG_over ∈ W0 := (List.mem_append_right _ (List.mem_append_left _ (List.mem_of_getElem? (l := B1) (i := 2) rfl)))
theorem k23 : Cond.selects "ImageGcds" yG_over yG_over ∈ W0 := (List.mem_append_right _ (List.mem_append_left _ (List.mem_of_getElem? (l := B1) (i := 3) rfl)))
theorem k24 : Cond.code yG_over bG_over 6 (some .int) ∈ W0 := (List.mem_append_right _ (List.mem_append_left _ (List.mem_of_getElem? (l := B1) (i := 4) rfl)))
theorem k25 : Cond.methodLink "ImageGcdsLaw" 35 yG_gcd ∈ W0 := (List.mem_append_right _ (List.mem_append_left _ (List.mem_of_getElem? (l := B1) (i := 5) rfl)))
theorem k26 : Cond.instanceMethod yG_gcd ∈ W0 := (List.mem_append_right _ (List.mem_append_left _ (List.mem_of_getElem? (l := B1) (i := 6) rfl)))
theorem k27 : Cond.selects "ImageGcds" yG_gcd yG_gcd ∈ W0 := (List.mem_append_right _ (List.mem_append_left _ (List.mem_of_getElem? (l := B1) (i := 7) rfl)))
theorem k28 : Cond.code yG_gcd bG_gcd 5 (some .int) ∈ W0 := (List.mem_append_right _ (List.mem_append_left _ (List.mem_of_getElem? (l := B1) (i := 8) rfl)))
theorem k29 : Cond.methodLink "ImageGcdsLaw" 38 yG_resultant ∈ W0 := (List.mem_append_right _ (List.mem_append_left _ (List.mem_of_getElem? (l := B1) (i := 9) rfl)))
theorem k30 : Cond.instanceMethod yG_resultant ∈ W0 := (List.mem_append_right _ (List.mem_append_left _ (List.mem_of_getElem? (l := B1) (i := 10) rfl)))
theorem k31 : Cond.selects "ImageGcds" yG_resultant yG_resultant ∈ W0 := (List.mem_append_right _ (List.mem_append_left _ (List.mem_of_getElem? (l := B1) (i := 11) rfl)))
theorem k32 : Cond.code yG_resultant bG_resultant 6 (some .int) ∈ W0 := (List.mem_append_right _ (List.mem_append_left _ (List.mem_of_getElem? (l := B1) (i := 12) rfl)))
theorem k33 : Cond.methodLink "ImageGcdsLaw" 42 yG_slope ∈ W0 := (List.mem_append_right _ (List.mem_append_left _ (List.mem_of_getElem? (l := B1) (i := 13) rfl)))
theorem k34 : Cond.instanceMethod yG_slope ∈ W0 := (List.mem_append_right _ (List.mem_append_left _ (List.mem_of_getElem? (l := B1) (i := 14) rfl)))
theorem k35 : Cond.selects "ImageGcds" yG_slope yG_slope ∈ W0 := (List.mem_append_right _ (List.mem_append_left _ (List.mem_of_getElem? (l := B1) (i := 15) rfl)))
theorem k36 : Cond.code yG_slope bG_slope 4 (some .int) ∈ W0 := (List.mem_append_right _ (List.mem_append_left _ (List.mem_of_getElem? (l := B1) (i := 16) rfl)))
theorem k37 : Cond.methodLink "ImageGcdsLaw" 45 yG_content ∈ W0 := (List.mem_append_right _ (List.mem_append_left _ (List.mem_of_getElem? (l := B1) (i := 17) rfl)))
theorem k38 : Cond.instanceMethod yG_content ∈ W0 := (List.mem_append_right _ (List.mem_append_left _ (List.mem_of_getElem? (l := B1) (i := 18) rfl)))
theorem k39 : Cond.selects "ImageGcds" yG_content yG_content ∈ W0 := (List.mem_append_right _ (List.mem_append_left _ (List.mem_of_getElem? (l := B1) (i := 19) rfl)))
theorem k40 : Cond.code yG_content bG_content 4 (some .int) ∈ W0 := (List.mem_append_right _ (List.mem_append_right _ (List.mem_append_left _ (List.mem_of_getElem? (l := B2) (i := 0) rfl))))
theorem k41 : Cond.methodLink "ImageGcdsLaw" 48 yG_part ∈ W0 := (List.mem_append_right _ (List.mem_append_right _ (List.mem_append_left _ (List.mem_of_getElem? (l := B2) (i := 1) rfl))))
theorem k42 : Cond.instanceMethod yG_part ∈ W0 := (List.mem_append_right _ (List.mem_append_right _ (List.mem_append_left _ (List.mem_of_getElem? (l := B2) (i := 2) rfl))))
theorem k43 : Cond.selects "ImageGcds" yG_part yG_part ∈ W0 := (List.mem_append_right _ (List.mem_append_right _ (List.mem_append_left _ (List.mem_of_getElem? (l := B2) (i := 3) rfl))))
theorem k44 : Cond.code yG_part bG_part 4 (some .int) ∈ W0 := (List.mem_append_right _ (List.mem_append_right _ (List.mem_append_left _ (List.mem_of_getElem? (l := B2) (i := 4) rfl))))
theorem k45 : Cond.methodLink "ImageGcdsLaw" 51 yG_image ∈ W0 := (List.mem_append_right _ (List.mem_append_right _ (List.mem_append_left _ (List.mem_of_getElem? (l := B2) (i := 5) rfl))))
theorem k46 : Cond.instanceMethod yG_image ∈ W0 := (List.mem_append_right _ (List.mem_append_right _ (List.mem_append_left _ (List.mem_of_getElem? (l := B2) (i := 6) rfl))))
theorem k47 : Cond.selects "ImageGcds" yG_image yG_image ∈ W0 := (List.mem_append_right _ (List.mem_append_right _ (List.mem_append_left _ (List.mem_of_getElem? (l := B2) (i := 7) rfl))))
theorem k48 : Cond.code yG_image bG_image 5 (some .int) ∈ W0 := (List.mem_append_right _ (List.mem_append_right _ (List.mem_append_left _ (List.mem_of_getElem? (l := B2) (i := 8) rfl))))
theorem k49 : Cond.methodLink "ImageGcdsLaw" 54 yG_equal ∈ W0 := (List.mem_append_right _ (List.mem_append_right _ (List.mem_append_left _ (List.mem_of_getElem? (l := B2) (i := 9) rfl))))
theorem k50 : Cond.instanceMethod yG_equal ∈ W0 := (List.mem_append_right _ (List.mem_append_right _ (List.mem_append_left _ (List.mem_of_getElem? (l := B2) (i := 10) rfl))))
theorem k51 : Cond.selects "ImageGcds" yG_equal yG_equal ∈ W0 := (List.mem_append_right _ (List.mem_append_right _ (List.mem_append_left _ (List.mem_of_getElem? (l := B2) (i := 11) rfl))))
theorem k52 : Cond.code yG_equal bG_equal 5 (some .boolean) ∈ W0 := (List.mem_append_right _ (List.mem_append_right _ (List.mem_append_left _ (List.mem_of_getElem? (l := B2) (i := 12) rfl))))
theorem k53 : Cond.methodLink "ImageGcdsLaw" 58 yG_terms ∈ W0 := (List.mem_append_right _ (List.mem_append_right _ (List.mem_append_left _ (List.mem_of_getElem? (l := B2) (i := 13) rfl))))
theorem k54 : Cond.instanceMethod yG_terms ∈ W0 := (List.mem_append_right _ (List.mem_append_right _ (List.mem_append_left _ (List.mem_of_getElem? (l := B2) (i := 14) rfl))))
theorem k55 : Cond.selects "ImageGcds" yG_terms yG_terms ∈ W0 := (List.mem_append_right _ (List.mem_append_right _ (List.mem_append_left _ (List.mem_of_getElem? (l := B2) (i := 15) rfl))))
theorem k56 : Cond.code yG_terms bG_terms 2 (some .int) ∈ W0 := (List.mem_append_right _ (List.mem_append_right _ (List.mem_append_left _ (List.mem_of_getElem? (l := B2) (i := 16) rfl))))
theorem k57 : Cond.methodLink "ImageGcdsLaw" 62 yG_at ∈ W0 := (List.mem_append_right _ (List.mem_append_right _ (List.mem_append_left _ (List.mem_of_getElem? (l := B2) (i := 17) rfl))))
theorem k58 : Cond.instanceMethod yG_at ∈ W0 := (List.mem_append_right _ (List.mem_append_right _ (List.mem_append_left _ (List.mem_of_getElem? (l := B2) (i := 18) rfl))))
theorem k59 : Cond.selects "ImageGcds" yG_at yG_at ∈ W0 := (List.mem_append_right _ (List.mem_append_right _ (List.mem_append_left _ (List.mem_of_getElem? (l := B2) (i := 19) rfl))))
theorem k60 : Cond.code yG_at bG_at 5 (some .int) ∈ W0 := (List.mem_append_right _ (List.mem_append_right _ (List.mem_append_right _ (List.mem_append_left _ (List.mem_of_getElem? (l := B3) (i := 0) rfl)))))
theorem k61 : Cond.methodLink "ImageGcdsLaw" 65 yG_degree ∈ W0 := (List.mem_append_right _ (List.mem_append_right _ (List.mem_append_right _ (List.mem_append_left _ (List.mem_of_getElem? (l := B3) (i := 1) rfl)))))
theorem k62 : Cond.instanceMethod yG_degree ∈ W0 := (List.mem_append_right _ (List.mem_append_right _ (List.mem_append_right _ (List.mem_append_left _ (List.mem_of_getElem? (l := B3) (i := 2) rfl)))))
theorem k63 : Cond.selects "ImageGcds" yG_degree yG_degree ∈ W0 := (List.mem_append_right _ (List.mem_append_right _ (List.mem_append_right _ (List.mem_append_left _ (List.mem_of_getElem? (l := B3) (i := 3) rfl)))))
theorem k64 : Cond.code yG_degree bG_degree 4 (some .int) ∈ W0 := (List.mem_append_right _ (List.mem_append_right _ (List.mem_append_right _ (List.mem_append_left _ (List.mem_of_getElem? (l := B3) (i := 4) rfl)))))
theorem k65 : Cond.constantLong "ImageGcdsModel" 72 (32003) ∈ W0 := (List.mem_append_right _ (List.mem_append_right _ (List.mem_append_right _ (List.mem_append_left _ (List.mem_of_getElem? (l := B3) (i := 5) rfl)))))
theorem k66 : Cond.fieldLink "ImageGcdsModel" 223 "ImageGcdsModel" "count" "I" ∈ W0 := (List.mem_append_right _ (List.mem_append_right _ (List.mem_append_right _ (List.mem_append_left _ (List.mem_of_getElem? (l := B3) (i := 6) rfl)))))
theorem k67 : Cond.fieldLink "ImageGcdsModel" 65 "ImageGcdsModel" "letters" "I" ∈ W0 := (List.mem_append_right _ (List.mem_append_right _ (List.mem_append_right _ (List.mem_append_left _ (List.mem_of_getElem? (l := B3) (i := 7) rfl)))))
theorem k68 : Cond.methodLink "ImageGcdsModel" 226 yM_isPoly ∈ W0 := (List.mem_append_right _ (List.mem_append_right _ (List.mem_append_right _ (List.mem_append_left _ (List.mem_of_getElem? (l := B3) (i := 8) rfl)))))
theorem k69 : Cond.instanceMethod yM_isPoly ∈ W0 := (List.mem_append_right _ (List.mem_append_right _ (List.mem_append_right _ (List.mem_append_left _ (List.mem_of_getElem? (l := B3) (i := 9) rfl)))))
theorem k70 : Cond.selects "ImageGcdsModel" yM_isPoly yM_isPoly ∈ W0 := (List.mem_append_right _ (List.mem_append_right _ (List.mem_append_right _ (List.mem_append_left _ (List.mem_of_getElem? (l := B3) (i := 10) rfl)))))
theorem k71 : Cond.initialized "ImageGcdsModel" ∈ W0 := (List.mem_append_right _ (List.mem_append_right _ (List.mem_append_right _ (List.mem_append_left _ (List.mem_of_getElem? (l := B3) (i := 11) rfl)))))
theorem k72 : Cond.code yM_isPoly bM_isPoly 2 (some .boolean) ∈ W0 := (List.mem_append_right _ (List.mem_append_right _ (List.mem_append_right _ (List.mem_append_left _ (List.mem_of_getElem? (l := B3) (i := 12) rfl)))))
theorem k73 : Cond.fieldLink "ImageGcdsModel" 69 "ImageGcdsModel" "thrown" "I" ∈ W0 := (List.mem_append_right _ (List.mem_append_right _ (List.mem_append_right _ (List.mem_append_left _ (List.mem_of_getElem? (l := B3) (i := 13) rfl)))))
theorem k74 : Cond.methodLink "ImageGcdsModel" 240 yM_number ∈ W0 := (List.mem_append_right _ (List.mem_append_right _ (List.mem_append_right _ (List.mem_append_left _ (List.mem_of_getElem? (l := B3) (i := 14) rfl)))))
theorem k75 : Cond.static yM_number ∈ W0 := (List.mem_append_right _ (List.mem_append_right _ (List.mem_append_right _ (List.mem_append_left _ (List.mem_of_getElem? (l := B3) (i := 15) rfl)))))
theorem k76 : Cond.code yM_number bM_number 3 (some .int) ∈ W0 := (List.mem_append_right _ (List.mem_append_right _ (List.mem_append_right _ (List.mem_append_left _ (List.mem_of_getElem? (l := B3) (i := 16) rfl)))))
theorem k77 : Cond.methodLink "ImageGcdsModel" 233 yM_fails ∈ W0 := (List.mem_append_right _ (List.mem_append_right _ (List.mem_append_right _ (List.mem_append_left _ (List.mem_of_getElem? (l := B3) (i := 17) rfl)))))
theorem k78 : Cond.instanceMethod yM_fails ∈ W0 := (List.mem_append_right _ (List.mem_append_right _ (List.mem_append_right _ (List.mem_append_left _ (List.mem_of_getElem? (l := B3) (i := 18) rfl)))))
theorem k79 : Cond.selects "ImageGcdsModel" yM_fails yM_fails ∈ W0 := (List.mem_append_right _ (List.mem_append_right _ (List.mem_append_right _ (List.mem_append_left _ (List.mem_of_getElem? (l := B3) (i := 19) rfl)))))
theorem k80 : Cond.code yM_fails bM_fails 4 (some .boolean) ∈ W0 := (List.mem_append_right _ (List.mem_append_right _ (List.mem_append_right _ (List.mem_append_right _ (List.mem_append_left _ (List.mem_of_getElem? (l := B4) (i := 0) rfl))))))
theorem k81 : Cond.methodLink "ImageGcdsModel" 244 yM_areNot ∈ W0 := (List.mem_append_right _ (List.mem_append_right _ (List.mem_append_right _ (List.mem_append_right _ (List.mem_append_left _ (List.mem_of_getElem? (l := B4) (i := 1) rfl))))))
theorem k82 : Cond.instanceMethod yM_areNot ∈ W0 := (List.mem_append_right _ (List.mem_append_right _ (List.mem_append_right _ (List.mem_append_right _ (List.mem_append_left _ (List.mem_of_getElem? (l := B4) (i := 2) rfl))))))
theorem k83 : Cond.selects "ImageGcdsModel" yM_areNot yM_areNot ∈ W0 := (List.mem_append_right _ (List.mem_append_right _ (List.mem_append_right _ (List.mem_append_right _ (List.mem_append_left _ (List.mem_of_getElem? (l := B4) (i := 3) rfl))))))
theorem k84 : Cond.code yM_areNot bM_areNot 3 (some .boolean) ∈ W0 := (List.mem_append_right _ (List.mem_append_right _ (List.mem_append_right _ (List.mem_append_right _ (List.mem_append_left _ (List.mem_of_getElem? (l := B4) (i := 4) rfl))))))
theorem k85 : Cond.methodLink "ImageGcdsModel" 229 yM_isFull ∈ W0 := (List.mem_append_right _ (List.mem_append_right _ (List.mem_append_right _ (List.mem_append_right _ (List.mem_append_left _ (List.mem_of_getElem? (l := B4) (i := 5) rfl))))))
theorem k86 : Cond.instanceMethod yM_isFull ∈ W0 := (List.mem_append_right _ (List.mem_append_right _ (List.mem_append_right _ (List.mem_append_right _ (List.mem_append_left _ (List.mem_of_getElem? (l := B4) (i := 6) rfl))))))
theorem k87 : Cond.selects "ImageGcdsModel" yM_isFull yM_isFull ∈ W0 := (List.mem_append_right _ (List.mem_append_right _ (List.mem_append_right _ (List.mem_append_right _ (List.mem_append_left _ (List.mem_of_getElem? (l := B4) (i := 7) rfl))))))
theorem k88 : Cond.code yM_isFull bM_isFull 1 (some .boolean) ∈ W0 := (List.mem_append_right _ (List.mem_append_right _ (List.mem_append_right _ (List.mem_append_right _ (List.mem_append_left _ (List.mem_of_getElem? (l := B4) (i := 8) rfl))))))
theorem k89 : Cond.methodLink "ImageGcdsModel" 268 yM_isLetter ∈ W0 := (List.mem_append_right _ (List.mem_append_right _ (List.mem_append_right _ (List.mem_append_right _ (List.mem_append_left _ (List.mem_of_getElem? (l := B4) (i := 9) rfl))))))
theorem k90 : Cond.instanceMethod yM_isLetter ∈ W0 := (List.mem_append_right _ (List.mem_append_right _ (List.mem_append_right _ (List.mem_append_right _ (List.mem_append_left _ (List.mem_of_getElem? (l := B4) (i := 10) rfl))))))
theorem k91 : Cond.selects "ImageGcdsModel" yM_isLetter yM_isLetter ∈ W0 := (List.mem_append_right _ (List.mem_append_right _ (List.mem_append_right _ (List.mem_append_right _ (List.mem_append_left _ (List.mem_of_getElem? (l := B4) (i := 11) rfl))))))
theorem k92 : Cond.code yM_isLetter bM_isLetter 2 (some .boolean) ∈ W0 := (List.mem_append_right _ (List.mem_append_right _ (List.mem_append_right _ (List.mem_append_right _ (List.mem_append_left _ (List.mem_of_getElem? (l := B4) (i := 12) rfl))))))
theorem k93 : Cond.methodLink "ImageGcds" 1 Lib.objectInit ∈ W0 := (List.mem_append_right _ (List.mem_append_right _ (List.mem_append_right _ (List.mem_append_right _ (List.mem_append_left _ (List.mem_of_getElem? (l := B4) (i := 13) rfl))))))
theorem k94 : Cond.instanceMethod Lib.objectInit ∈ W0 := (List.mem_append_right _ (List.mem_append_right _ (List.mem_append_right _ (List.mem_append_right _ (List.mem_append_left _ (List.mem_of_getElem? (l := B4) (i := 14) rfl))))))
theorem k95 : Cond.code Lib.objectInit ⟨#[0xb1]⟩ 1 none ∈ W0 := (List.mem_append_right _ (List.mem_append_right _ (List.mem_append_right _ (List.mem_append_right _ (List.mem_append_left _ (List.mem_of_getElem? (l := B4) (i := 15) rfl))))))
theorem k96 : Cond.fieldLink "ImageGcds" 9 "ImageGcds" "letters" "I" ∈ W0 := (List.mem_append_right _ (List.mem_append_right _ (List.mem_append_right _ (List.mem_append_right _ (List.mem_append_left _ (List.mem_of_getElem? (l := B4) (i := 16) rfl))))))
theorem k97 : Cond.classLink "ImageGcds" 13 "ImageGcds$Poly" ∈ W0 := (List.mem_append_right _ (List.mem_append_right _ (List.mem_append_right _ (List.mem_append_right _ (List.mem_append_left _ (List.mem_of_getElem? (l := B4) (i := 17) rfl))))))
theorem k98 : Cond.fieldLink "ImageGcds" 15 "ImageGcds" "polys" "[LImageGcds$Poly;" ∈ W0 := (List.mem_append_right _ (List.mem_append_right _ (List.mem_append_right _ (List.mem_append_right _ (List.mem_append_left _ (List.mem_of_getElem? (l := B4) (i := 18) rfl))))))
theorem k99 : Cond.methodLink "ImageGcdsModel" 1 Lib.objectInit ∈ W0 := (List.mem_append_right _ (List.mem_append_right _ (List.mem_append_right _ (List.mem_append_right _ (List.mem_append_left _ (List.mem_of_getElem? (l := B4) (i := 19) rfl))))))
theorem k100 : Cond.constant "ImageGcdsModel" 7 (290816) ∈ W0 := (List.mem_append_right _ (List.mem_append_right _ (List.mem_append_right _ (List.mem_append_right _ (List.mem_append_right _ (List.mem_append_left _ (List.mem_of_getElem? (l := B5) (i := 0) rfl)))))))
theorem k101 : Cond.arrayClass .int ∈ W0 := (List.mem_append_right _ (List.mem_append_right _ (List.mem_append_right _ (List.mem_append_right _ (List.mem_append_right _ (List.mem_append_left _ (List.mem_of_getElem? (l := B5) (i := 1) rfl)))))))
theorem k102 : Cond.fieldLink "ImageGcdsModel" 8 "ImageGcdsModel" "n" "[I" ∈ W0 := (List.mem_append_right _ (List.mem_append_right _ (List.mem_append_right _ (List.mem_append_right _ (List.mem_append_right _ (List.mem_append_left _ (List.mem_of_getElem? (l := B5) (i := 2) rfl)))))))
theorem k103 : Cond.fieldLink "ImageGcdsModel" 14 "ImageGcdsModel" "two" "[I" ∈ W0 := (List.mem_append_right _ (List.mem_append_right _ (List.mem_append_right _ (List.mem_append_right _ (List.mem_append_right _ (List.mem_append_left _ (List.mem_of_getElem? (l := B5) (i := 3) rfl)))))))
theorem k104 : Cond.fieldLink "ImageGcdsModel" 17 "ImageGcdsModel" "a" "[I" ∈ W0 := (List.mem_append_right _ (List.mem_append_right _ (List.mem_append_right _ (List.mem_append_right _ (List.mem_append_right _ (List.mem_append_left _ (List.mem_of_getElem? (l := B5) (i := 4) rfl)))))))
theorem k105 : Cond.fieldLink "ImageGcdsModel" 20 "ImageGcdsModel" "b" "[I" ∈ W0 := (List.mem_append_right _ (List.mem_append_right _ (List.mem_append_right _ (List.mem_append_right _ (List.mem_append_right _ (List.mem_append_left _ (List.mem_of_getElem? (l := B5) (i := 5) rfl)))))))
theorem k106 : Cond.fieldLink "ImageGcdsModel" 23 "ImageGcdsModel" "c" "[I" ∈ W0 := (List.mem_append_right _ (List.mem_append_right _ (List.mem_append_right _ (List.mem_append_right _ (List.mem_append_right _ (List.mem_append_left _ (List.mem_of_getElem? (l := B5) (i := 6) rfl)))))))
theorem k107 : Cond.fieldLink "ImageGcdsModel" 26 "ImageGcdsModel" "point" "[I" ∈ W0 := (List.mem_append_right _ (List.mem_append_right _ (List.mem_append_right _ (List.mem_append_right _ (List.mem_append_right _ (List.mem_append_left _ (List.mem_of_getElem? (l := B5) (i := 7) rfl)))))))
theorem k108 : Cond.fieldLink "ImageGcdsModel" 29 "ImageGcdsModel" "given" "[I" ∈ W0 := (List.mem_append_right _ (List.mem_append_right _ (List.mem_append_right _ (List.mem_append_right _ (List.mem_append_right _ (List.mem_append_left _ (List.mem_of_getElem? (l := B5) (i := 8) rfl)))))))
theorem k109 : Cond.fieldLink "ImageGcdsModel" 32 "ImageGcdsModel" "whole" "[I" ∈ W0 := (List.mem_append_right _ (List.mem_append_right _ (List.mem_append_right _ (List.mem_append_right _ (List.mem_append_right _ (List.mem_append_left _ (List.mem_of_getElem? (l := B5) (i := 9) rfl)))))))
theorem k110 : Cond.fieldLink "ImageGcdsModel" 35 "ImageGcdsModel" "pointsTwo" "[I" ∈ W0 := (List.mem_append_right _ (List.mem_append_right _ (List.mem_append_right _ (List.mem_append_right _ (List.mem_append_right _ (List.mem_append_left _ (List.mem_of_getElem? (l := B5) (i := 10) rfl)))))))
theorem k111 : Cond.fieldLink "ImageGcdsModel" 38 "ImageGcdsModel" "valuesTwo" "[I" ∈ W0 := (List.mem_append_right _ (List.mem_append_right _ (List.mem_append_right _ (List.mem_append_right _ (List.mem_append_right _ (List.mem_append_left _ (List.mem_of_getElem? (l := B5) (i := 11) rfl)))))))
theorem k112 : Cond.fieldLink "ImageGcdsModel" 41 "ImageGcdsModel" "pointsY" "[I" ∈ W0 := (List.mem_append_right _ (List.mem_append_right _ (List.mem_append_right _ (List.mem_append_right _ (List.mem_append_right _ (List.mem_append_left _ (List.mem_of_getElem? (l := B5) (i := 12) rfl)))))))
theorem k113 : Cond.fieldLink "ImageGcdsModel" 44 "ImageGcdsModel" "valuesY" "[I" ∈ W0 := (List.mem_append_right _ (List.mem_append_right _ (List.mem_append_right _ (List.mem_append_right _ (List.mem_append_right _ (List.mem_append_left _ (List.mem_of_getElem? (l := B5) (i := 13) rfl)))))))
theorem k114 : Cond.fieldLink "ImageGcdsModel" 47 "ImageGcdsModel" "pointsZ" "[I" ∈ W0 := (List.mem_append_right _ (List.mem_append_right _ (List.mem_append_right _ (List.mem_append_right _ (List.mem_append_right _ (List.mem_append_left _ (List.mem_of_getElem? (l := B5) (i := 14) rfl)))))))
theorem k115 : Cond.fieldLink "ImageGcdsModel" 50 "ImageGcdsModel" "valuesZ" "[I" ∈ W0 := (List.mem_append_right _ (List.mem_append_right _ (List.mem_append_right _ (List.mem_append_right _ (List.mem_append_right _ (List.mem_append_left _ (List.mem_of_getElem? (l := B5) (i := 15) rfl)))))))
theorem k116 : Cond.fieldLink "ImageGcdsModel" 53 "ImageGcdsModel" "grid" "[I" ∈ W0 := (List.mem_append_right _ (List.mem_append_right _ (List.mem_append_right _ (List.mem_append_right _ (List.mem_append_right _ (List.mem_append_left _ (List.mem_of_getElem? (l := B5) (i := 16) rfl)))))))
theorem k117 : Cond.fieldLink "ImageGcdsModel" 56 "ImageGcdsModel" "planeA" "[I" ∈ W0 := (List.mem_append_right _ (List.mem_append_right _ (List.mem_append_right _ (List.mem_append_right _ (List.mem_append_right _ (List.mem_append_left _ (List.mem_of_getElem? (l := B5) (i := 17) rfl)))))))
theorem k118 : Cond.fieldLink "ImageGcdsModel" 59 "ImageGcdsModel" "planeB" "[I" ∈ W0 := (List.mem_append_right _ (List.mem_append_right _ (List.mem_append_right _ (List.mem_append_right _ (List.mem_append_right _ (List.mem_append_left _ (List.mem_of_getElem? (l := B5) (i := 18) rfl)))))))
theorem k119 : Cond.fieldLink "ImageGcdsModel" 62 "ImageGcdsModel" "matrix" "[I" ∈ W0 := (List.mem_append_right _ (List.mem_append_right _ (List.mem_append_right _ (List.mem_append_right _ (List.mem_append_right _ (List.mem_append_left _ (List.mem_of_getElem? (l := B5) (i := 19) rfl)))))))
theorem k120 : Cond.methodLink "ImageGcds$Poly" 3 Lib.objectInit ∈ W0 := (List.mem_append_right _ (List.mem_append_right _ (List.mem_append_right _ (List.mem_append_right _ (List.mem_append_right _ (List.mem_append_right _ (List.mem_append_left _ (List.mem_of_getElem? (l := B6) (i := 0) rfl))))))))
theorem k121 : Cond.fieldLink "ImageGcds$Poly" 9 "ImageGcds$Poly" "size" "I" ∈ W0 := (List.mem_append_right _ (List.mem_append_right _ (List.mem_append_right _ (List.mem_append_right _ (List.mem_append_right _ (List.mem_append_right _ (List.mem_append_left _ (List.mem_of_getElem? (l := B6) (i := 1) rfl))))))))
theorem k122 : Cond.fieldLink "ImageGcds$Poly" 15 "ImageGcds$Poly" "keys" "[I" ∈ W0 := (List.mem_append_right _ (List.mem_append_right _ (List.mem_append_right _ (List.mem_append_right _ (List.mem_append_right _ (List.mem_append_right _ (List.mem_append_left _ (List.mem_of_getElem? (l := B6) (i := 2) rfl))))))))
theorem k123 : Cond.fieldLink "ImageGcds$Poly" 19 "ImageGcds$Poly" "numbers" "[I" ∈ W0 := (List.mem_append_right _ (List.mem_append_right _ (List.mem_append_right _ (List.mem_append_right _ (List.mem_append_right _ (List.mem_append_right _ (List.mem_append_left _ (List.mem_of_getElem? (l := B6) (i := 3) rfl))))))))
theorem k124 : Cond.methodLink "ImageGcdsModel" 99 yM_copy ∈ W0 := (List.mem_append_right _ (List.mem_append_right _ (List.mem_append_right _ (List.mem_append_right _ (List.mem_append_right _ (List.mem_append_right _ (List.mem_append_left _ (List.mem_of_getElem? (l := B6) (i := 4) rfl))))))))
theorem k125 : Cond.instanceMethod yM_copy ∈ W0 := (List.mem_append_right _ (List.mem_append_right _ (List.mem_append_right _ (List.mem_append_right _ (List.mem_append_right _ (List.mem_append_right _ (List.mem_append_left _ (List.mem_of_getElem? (l := B6) (i := 5) rfl))))))))
theorem k126 : Cond.selects "ImageGcdsModel" yM_copy yM_copy ∈ W0 := (List.mem_append_right _ (List.mem_append_right _ (List.mem_append_right _ (List.mem_append_right _ (List.mem_append_right _ (List.mem_append_right _ (List.mem_append_left _ (List.mem_of_getElem? (l := B6) (i := 6) rfl))))))))
theorem k127 : Cond.code yM_copy bM_copy 4 none ∈ W0 := (List.mem_append_right _ (List.mem_append_right _ (List.mem_append_right _ (List.mem_append_right _ (List.mem_append_right _ (List.mem_append_right _ (List.mem_append_left _ (List.mem_of_getElem? (l := B6) (i := 7) rfl))))))))
theorem k128 : Cond.methodLink "ImageGcdsModel" 95 yM_clear ∈ W0 := (List.mem_append_right _ (List.mem_append_right _ (List.mem_append_right _ (List.mem_append_right _ (List.mem_append_right _ (List.mem_append_right _ (List.mem_append_left _ (List.mem_of_getElem? (l := B6) (i := 8) rfl))))))))
theorem k129 : Cond.instanceMethod yM_clear ∈ W0 := (List.mem_append_right _ (List.mem_append_right _ (List.mem_append_right _ (List.mem_append_right _ (List.mem_append_right _ (List.mem_append_right _ (List.mem_append_left _ (List.mem_of_getElem? (l := B6) (i := 9) rfl))))))))
theorem k130 : Cond.selects "ImageGcdsModel" yM_clear yM_clear ∈ W0 := (List.mem_append_right _ (List.mem_append_right _ (List.mem_append_right _ (List.mem_append_right _ (List.mem_append_right _ (List.mem_append_right _ (List.mem_append_left _ (List.mem_of_getElem? (l := B6) (i := 10) rfl))))))))
theorem k131 : Cond.code yM_clear bM_clear 3 none ∈ W0 := (List.mem_append_right _ (List.mem_append_right _ (List.mem_append_right _ (List.mem_append_right _ (List.mem_append_right _ (List.mem_append_right _ (List.mem_append_left _ (List.mem_of_getElem? (l := B6) (i := 11) rfl))))))))
theorem k132 : Cond.methodLink "ImageGcdsModel" 237 yM_made ∈ W0 := (List.mem_append_right _ (List.mem_append_right _ (List.mem_append_right _ (List.mem_append_right _ (List.mem_append_right _ (List.mem_append_right _ (List.mem_append_left _ (List.mem_of_getElem? (l := B6) (i := 12) rfl))))))))
theorem k133 : Cond.instanceMethod yM_made ∈ W0 := (List.mem_append_right _ (List.mem_append_right _ (List.mem_append_right _ (List.mem_append_right _ (List.mem_append_right _ (List.mem_append_right _ (List.mem_append_left _ (List.mem_of_getElem? (l := B6) (i := 13) rfl))))))))
theorem k134 : Cond.selects "ImageGcdsModel" yM_made yM_made ∈ W0 := (List.mem_append_right _ (List.mem_append_right _ (List.mem_append_right _ (List.mem_append_right _ (List.mem_append_right _ (List.mem_append_right _ (List.mem_append_left _ (List.mem_of_getElem? (l := B6) (i := 14) rfl))))))))
theorem k135 : Cond.code yM_made bM_made 2 (some .int) ∈ W0 := (List.mem_append_right _ (List.mem_append_right _ (List.mem_append_right _ (List.mem_append_right _ (List.mem_append_right _ (List.mem_append_right _ (List.mem_append_left _ (List.mem_of_getElem? (l := B6) (i := 15) rfl))))))))
theorem k136 : Cond.methodLink "ImageGcds" 22 yG_requireRoom ∈ W0 := (List.mem_append_right _ (List.mem_append_right _ (List.mem_append_right _ (List.mem_append_right _ (List.mem_append_right _ (List.mem_append_right _ (List.mem_append_left _ (List.mem_of_getElem? (l := B6) (i := 16) rfl))))))))
theorem k137 : Cond.instanceMethod yG_requireRoom ∈ W0 := (List.mem_append_right _ (List.mem_append_right _ (List.mem_append_right _ (List.mem_append_right _ (List.mem_append_right _ (List.mem_append_right _ (List.mem_append_left _ (List.mem_of_getElem? (l := B6) (i := 17) rfl))))))))
theorem k138 : Cond.selects "ImageGcds" yG_requireRoom yG_requireRoom ∈ W0 := (List.mem_append_right _ (List.mem_append_right _ (List.mem_append_right _ (List.mem_append_right _ (List.mem_append_right _ (List.mem_append_right _ (List.mem_append_left _ (List.mem_of_getElem? (l := B6) (i := 18) rfl))))))))
theorem k139 : Cond.code yG_requireRoom bG_requireRoom 1 none ∈ W0 := (List.mem_append_right _ (List.mem_append_right _ (List.mem_append_right _ (List.mem_append_right _ (List.mem_append_right _ (List.mem_append_right _ (List.mem_append_left _ (List.mem_of_getElem? (l := B6) (i := 19) rfl))))))))
theorem k140 : Cond.instantiable "ImageGcds$Poly" 3 ∈ W0 := (List.mem_append_right _ (List.mem_append_right _ (List.mem_append_right _ (List.mem_append_right _ (List.mem_append_right _ (List.mem_append_right _ (List.mem_append_right _ (List.mem_append_left _ (List.mem_of_getElem? (l := B7) (i := 0) rfl)))))))))
theorem k141 : Cond.initialized "ImageGcds$Poly" ∈ W0 := (List.mem_append_right _ (List.mem_append_right _ (List.mem_append_right _ (List.mem_append_right _ (List.mem_append_right _ (List.mem_append_right _ (List.mem_append_right _ (List.mem_append_left _ (List.mem_of_getElem? (l := B7) (i := 1) rfl)))))))))
theorem k142 : Cond.code yP_init bP_init 3 none ∈ W0 := (List.mem_append_right _ (List.mem_append_right _ (List.mem_append_right _ (List.mem_append_right _ (List.mem_append_right _ (List.mem_append_right _ (List.mem_append_right _ (List.mem_append_left _ (List.mem_of_getElem? (l := B7) (i := 2) rfl)))))))))
theorem k143 : Cond.methodLink "ImageGcds" 25 yP_init ∈ W0 := (List.mem_append_right _ (List.mem_append_right _ (List.mem_append_right _ (List.mem_append_right _ (List.mem_append_right _ (List.mem_append_right _ (List.mem_append_right _ (List.mem_append_left _ (List.mem_of_getElem? (l := B7) (i := 3) rfl)))))))))
theorem k144 : Cond.instanceMethod yP_init ∈ W0 := (List.mem_append_right _ (List.mem_append_right _ (List.mem_append_right _ (List.mem_append_right _ (List.mem_append_right _ (List.mem_append_right _ (List.mem_append_right _ (List.mem_append_left _ (List.mem_of_getElem? (l := B7) (i := 4) rfl)))))))))
theorem k145 : Cond.methodLink "ImageGcds" 28 yG_keep ∈ W0 := (List.mem_append_right _ (List.mem_append_right _ (List.mem_append_right _ (List.mem_append_right _ (List.mem_append_right _ (List.mem_append_right _ (List.mem_append_right _ (List.mem_append_left _ (List.mem_of_getElem? (l := B7) (i := 5) rfl)))))))))
theorem k146 : Cond.instanceMethod yG_keep ∈ W0 := (List.mem_append_right _ (List.mem_append_right _ (List.mem_append_right _ (List.mem_append_right _ (List.mem_append_right _ (List.mem_append_right _ (List.mem_append_right _ (List.mem_append_left _ (List.mem_of_getElem? (l := B7) (i := 6) rfl)))))))))
theorem k147 : Cond.selects "ImageGcds" yG_keep yG_keep ∈ W0 := (List.mem_append_right _ (List.mem_append_right _ (List.mem_append_right _ (List.mem_append_right _ (List.mem_append_right _ (List.mem_append_right _ (List.mem_append_right _ (List.mem_append_left _ (List.mem_of_getElem? (l := B7) (i := 7) rfl)))))))))
theorem k148 : Cond.code yG_keep bG_keep 2 (some .int) ∈ W0 := (List.mem_append_right _ (List.mem_append_right _ (List.mem_append_right _ (List.mem_append_right _ (List.mem_append_right _ (List.mem_append_right _ (List.mem_append_right _ (List.mem_append_left _ (List.mem_of_getElem? (l := B7) (i := 8) rfl)))))))))
theorem k149 : Cond.methodLink "ImageGcdsLaw" 7 yG_poly ∈ W0 := (List.mem_append_right _ (List.mem_append_right _ (List.mem_append_right _ (List.mem_append_right _ (List.mem_append_right _ (List.mem_append_right _ (List.mem_append_right _ (List.mem_append_left _ (List.mem_of_getElem? (l := B7) (i := 9) rfl)))))))))
theorem k150 : Cond.instanceMethod yG_poly ∈ W0 := (List.mem_append_right _ (List.mem_append_right _ (List.mem_append_right _ (List.mem_append_right _ (List.mem_append_right _ (List.mem_append_right _ (List.mem_append_right _ (List.mem_append_left _ (List.mem_of_getElem? (l := B7) (i := 10) rfl)))))))))
theorem k151 : Cond.selects "ImageGcds" yG_poly yG_poly ∈ W0 := (List.mem_append_right _ (List.mem_append_right _ (List.mem_append_right _ (List.mem_append_right _ (List.mem_append_right _ (List.mem_append_right _ (List.mem_append_right _ (List.mem_append_left _ (List.mem_of_getElem? (l := B7) (i := 11) rfl)))))))))
theorem k152 : Cond.code yG_poly bG_poly 1 (some .int) ∈ W0 := (List.mem_append_right _ (List.mem_append_right _ (List.mem_append_right _ (List.mem_append_right _ (List.mem_append_right _ (List.mem_append_right _ (List.mem_append_right _ (List.mem_append_left _ (List.mem_of_getElem? (l := B7) (i := 12) rfl)))))))))
theorem uG : ∀ w ∈ wUG, w ∈ W0 := fun w h => (List.mem_append_right _ (List.mem_append_right _ (List.mem_append_right _ (List.mem_append_right _ (List.mem_append_right _ (List.mem_append_right _ (List.mem_append_right _ (List.mem_append_right _ (List.mem_append_left _ h)))))))))
theorem uP : ∀ w ∈ wUP, w ∈ W0 := fun w h => (List.mem_append_right _ (List.mem_append_right _ (List.mem_append_right _ (List.mem_append_right _ (List.mem_append_right _ (List.mem_append_right _ (List.mem_append_right _ (List.mem_append_right _ (List.mem_append_right _ (List.mem_append_left _ h))))))))))
theorem uM : ∀ w ∈ wUM, w ∈ W0 := fun w h => (List.mem_append_right _ (List.mem_append_right _ (List.mem_append_right _ (List.mem_append_right _ (List.mem_append_right _ (List.mem_append_right _ (List.mem_append_right _ (List.mem_append_right _ (List.mem_append_right _ (List.mem_append_right _ (List.mem_append_left _ h)))))))))))
theorem thI : ∀ w ∈ thW, w ∈ W0 := fun w h => (List.mem_append_right _ (List.mem_append_right _ (List.mem_append_right _ (List.mem_append_right _ (List.mem_append_right _ (List.mem_append_right _ (List.mem_append_right _ (List.mem_append_right _ (List.mem_append_right _ (List.mem_append_right _ (List.mem_append_right _ h)))))))))))
theorem good_B0 : B0.all goodWord = true := by decide +kernel
theorem good_B1 : B1.all goodWord = true := by decide +kernel
theorem good_B2 : B2.all goodWord = true := by decide +kernel
theorem good_B3 : B3.all goodWord = true := by decide +kernel
theorem good_B4 : B4.all goodWord = true := by decide +kernel
theorem good_B5 : B5.all goodWord = true := by decide +kernel
theorem good_B6 : B6.all goodWord = true := by decide +kernel
theorem good_B7 : B7.all goodWord = true := by decide +kernel
theorem good_wUG : wUG.all goodWord = true := by decide +kernel
theorem good_wUP : wUP.all goodWord = true := by decide +kernel
theorem good_wUM : wUM.all goodWord = true := by decide +kernel
theorem good_thW : thW.all goodWord = true := by decide +kernel
theorem W0a : ∀ w ∈ W0, goodWord w = true := by
  intro w h
  unfold W0 at h
  simp only [List.mem_append] at h
  rcases h with h | h | h | h | h | h | h | h | h | h | h | h
  · exact List.all_eq_true.mp good_B0 w h
  · exact List.all_eq_true.mp good_B1 w h
  · exact List.all_eq_true.mp good_B2 w h
  · exact List.all_eq_true.mp good_B3 w h
  · exact List.all_eq_true.mp good_B4 w h
  · exact List.all_eq_true.mp good_B5 w h
  · exact List.all_eq_true.mp good_B6 w h
  · exact List.all_eq_true.mp good_B7 w h
  · exact List.all_eq_true.mp good_wUG w h
  · exact List.all_eq_true.mp good_wUP w h
  · exact List.all_eq_true.mp good_wUM w h
  · exact List.all_eq_true.mp good_thW w h
theorem W0g : ∀ w ∈ W0, (w.onTables && w.keeps) = true ∨ ∃ ty, w = .arrayClass ty := fun w h => good_of_word (W0a w h)
theorem gW {ws : List Cond} (h : ∀ w ∈ ws, w ∈ W0) : GoodIn W0 ws := fun w hw => ⟨h w hw, W0g w (h w hw)⟩
theorem gC {x : Cond} (h5 : x ∈ W0) : ∀ w ∈ x :: W0, w ∈ W0 := fun w h => (List.mem_cons.mp h).elim (fun e => by rw [e]; exact h5) id
theorem gV {own : String} {idx : Nat} {C : String} {y : MethodName} {x : Cond} (h1 : Cond.methodLink own idx y ∈ W0) (h2 : Cond.instanceMethod y ∈ W0) (h3 : Cond.selects C y y ∈ W0) (h4 : Cond.initialized C ∈ W0) (h5 : x ∈ W0) : GoodIn W0 (wsV own idx C y (x :: W0)) := gW fun w h => by
  unfold wsV at h
  rcases List.mem_append.mp h with h | h
  · simp only [List.mem_cons, List.not_mem_nil, or_false] at h
    rcases h with rfl | rfl | rfl | rfl
    · exact h1
    · exact h2
    · exact h3
    · exact h4
  · exact gC h5 w h
theorem gS {own : String} {idx : Nat} {y : MethodName} {x : Cond} (h1 : Cond.methodLink own idx y ∈ W0) (h2 : Cond.static y ∈ W0) (h4 : Cond.initialized y.cls ∈ W0) (h5 : x ∈ W0) : GoodIn W0 (va_wsS own idx y (x :: W0)) := gW fun w h => by
  unfold va_wsS at h
  rcases List.mem_append.mp h with h | h
  · simp only [List.mem_cons, List.not_mem_nil, or_false] at h
    rcases h with rfl | rfl | rfl
    · exact h1
    · exact h2
    · exact h4
  · exact gC h5 w h
theorem gI {x : Cond} (h5 : x ∈ W0) : GoodIn W0 (x :: W0) := gW (gC h5)
def wG_held : List Cond := .code yG_held bG_held 2 (some (.object "ImageGcds$Poly")) :: W0
def wG_term : List Cond := .code yG_term bG_term 10 (some .boolean) :: W0
def wG_add : List Cond := .code yG_add bG_add 5 (some .int) :: W0
def wG_times : List Cond := .code yG_times bG_times 5 (some .int) :: W0
def wG_over : List Cond := .code yG_over bG_over 6 (some .int) :: W0
def wG_gcd : List Cond := .code yG_gcd bG_gcd 5 (some .int) :: W0
def wG_resultant : List Cond := .code yG_resultant bG_resultant 6 (some .int) :: W0
def wG_slope : List Cond := .code yG_slope bG_slope 4 (some .int) :: W0
def wG_content : List Cond := .code yG_content bG_content 4 (some .int) :: W0
def wG_part : List Cond := .code yG_part bG_part 4 (some .int) :: W0
def wG_image : List Cond := .code yG_image bG_image 5 (some .int) :: W0
def wG_equal : List Cond := .code yG_equal bG_equal 5 (some .boolean) :: W0
def wG_terms : List Cond := .code yG_terms bG_terms 2 (some .int) :: W0
def wG_at : List Cond := .code yG_at bG_at 5 (some .int) :: W0
def wG_degree : List Cond := .code yG_degree bG_degree 4 (some .int) :: W0
def wL_term : List Cond := .codeWith yL_term bL_term 9 (some .int) [(0, 22, 25, 19), (0, 22, 29, 21), (0, 22, 33, 23)] :: W0
def wL_add : List Cond := .codeWith yL_add bL_add 5 (some .int) [(0, 10, 13, 19), (0, 10, 17, 13)] :: W0
def wL_times : List Cond := .codeWith yL_times bL_times 5 (some .int) [(0, 10, 13, 19), (0, 10, 17, 13), (0, 10, 21, 21)] :: W0
def wL_over : List Cond := .codeWith yL_over bL_over 5 (some .int) [(0, 10, 13, 19), (0, 10, 17, 13)] :: W0
def wL_gcd : List Cond := .codeWith yL_gcd bL_gcd 5 (some .int) [(0, 10, 13, 19), (0, 10, 17, 13)] :: W0
def wL_resultant : List Cond := .codeWith yL_resultant bL_resultant 6 (some .int) [(0, 12, 15, 19), (0, 12, 19, 13), (0, 12, 23, 21)] :: W0
def wL_slope : List Cond := .codeWith yL_slope bL_slope 5 (some .int) [(0, 10, 13, 19), (0, 10, 17, 13), (0, 10, 21, 21)] :: W0
def wL_content : List Cond := .codeWith yL_content bL_content 5 (some .int) [(0, 10, 13, 19), (0, 10, 17, 13), (0, 10, 21, 21)] :: W0
def wL_part : List Cond := .codeWith yL_part bL_part 5 (some .int) [(0, 10, 13, 19), (0, 10, 17, 13), (0, 10, 21, 21)] :: W0
def wL_image : List Cond := .codeWith yL_image bL_image 6 (some .int) [(0, 12, 15, 19), (0, 12, 19, 13), (0, 12, 23, 21)] :: W0
def wL_equal : List Cond := .codeWith yL_equal bL_equal 5 (some .int) [(0, 17, 20, 19)] :: W0
def wL_terms : List Cond := .codeWith yL_terms bL_terms 4 (some .int) [(0, 9, 12, 19)] :: W0
def wL_at : List Cond := .codeWith yL_at bL_at 6 (some .int) [(0, 12, 15, 19), (0, 12, 19, 21)] :: W0
def wL_degree : List Cond := .codeWith yL_degree bL_degree 5 (some .int) [(0, 10, 13, 19), (0, 10, 17, 21)] :: W0
def wM_number : List Cond := .code yM_number bM_number 3 (some .int) :: W0
def wM_isPoly : List Cond := .code yM_isPoly bM_isPoly 2 (some .boolean) :: W0
def wM_isFull : List Cond := .code yM_isFull bM_isFull 1 (some .boolean) :: W0
def wM_isLetter : List Cond := .code yM_isLetter bM_isLetter 2 (some .boolean) :: W0
def wM_areNot : List Cond := .code yM_areNot bM_areNot 3 (some .boolean) :: W0
def wM_thrown : List Cond := .code yM_thrown bM_thrown 1 (some .int) :: W0
def wM_fails : List Cond := .code yM_fails bM_fails 4 (some .boolean) :: W0
def wM_count : List Cond := .code yM_count bM_count 1 (some .int) :: W0
def wM_term : List Cond := .code yM_term bM_term 9 (some .boolean) :: W0
def wM_add : List Cond := .code yM_add bM_add 4 (some .int) :: W0
def wM_times : List Cond := .code yM_times bM_times 3 (some .int) :: W0
def wM_over : List Cond := .code yM_over bM_over 3 (some .int) :: W0
def wM_gcd : List Cond := .code yM_gcd bM_gcd 3 (some .int) :: W0
def wM_resultant : List Cond := .code yM_resultant bM_resultant 12 (some .int) :: W0
def wM_slope : List Cond := .code yM_slope bM_slope 3 (some .int) :: W0
def wM_content : List Cond := .code yM_content bM_content 5 (some .int) :: W0
def wM_part : List Cond := .code yM_part bM_part 7 (some .int) :: W0
def wM_image : List Cond := .code yM_image bM_image 10 (some .int) :: W0
def wM_equal : List Cond := .code yM_equal bM_equal 5 (some .boolean) :: W0
def wM_terms : List Cond := .code yM_terms bM_terms 2 (some .int) :: W0
def wM_at : List Cond := .code yM_at bM_at 9 (some .int) :: W0
def wM_degree : List Cond := .code yM_degree bM_degree 4 (some .int) :: W0
def wG_init : List Cond := .code yG_init bG_init 2 none :: W0
def wM_init : List Cond := .code yM_init bM_init 2 none :: W0
def wP_init : List Cond := .code yP_init bP_init 3 none :: W0
def wG_count : List Cond := .code yG_count bG_count 1 (some .int) :: W0
def wL_cell : List Cond := .code yL_cell bL_cell 2 (some .int) :: W0
def wM_clear : List Cond := .code yM_clear bM_clear 3 none :: W0
def wM_copy : List Cond := .code yM_copy bM_copy 4 none :: W0
def wM_made : List Cond := .code yM_made bM_made 2 (some .int) :: W0
def wM_poly : List Cond := .code yM_poly bM_poly 1 (some .int) :: W0
def wG_requireRoom : List Cond := .code yG_requireRoom bG_requireRoom 1 none :: W0
def wG_keep : List Cond := .code yG_keep bG_keep 2 (some .int) :: W0
def wG_poly : List Cond := .code yG_poly bG_poly 1 (some .int) :: W0
def wL_poly : List Cond := .codeWith yL_poly bL_poly 3 (some .int) [(0, 8, 11, 13)] :: W0
def gU (dC : Nat → ClassId) (dI : Nat → Nat → Nat) (h0 : Nat) (le : Int32) (qp sa : Nat) (U : State) : Prop := va_P (dC, dI) cls9 [(h0, .inr (0, [.int le, .ref qp, .int 0, .null]))] U.heap ∧ va_K (dC, dI) cls9 [] U ∧ th_S U ∧ vk_R "ImageGcds" 139 "no such polynomial" sa U
theorem gU.go {dC : Nat → ClassId} {dI : Nat → Nat → Nat} {h0 : Nat} {le : Int32} {qp sa : Nat} {s U : State} (hW : s.WarmedH U.vm) (hH : ∀ q : Nat, q < s.heap.size → U.heap[q]? = s.heap[q]?) (h : gU dC dI h0 le qp sa s) : gU dC dI h0 le qp sa U :=
  ⟨h.1.kept (fun k x hx => hH x.1 ((h.1 k x hx).lt)), va_K.moved hW.alike h.2.1, h.2.2.1.go hW.alike hH, vk_R.warm hW h.2.2.2⟩
theorem gU.bl {dC : Nat → ClassId} {dI : Nat → Nat → Nat} {h0 : Nat} {le : Int32} {qp sa : Nat} {av : List Value} : FrameBlind (va_Pc av (gU dC dI h0 le qp sa)) := fun a U g mk q => ⟨q.1, gU.go (s := U) (U := U.calling g mk a) (State.WarmedH.refl U) (fun _ _ => rfl) q.2⟩
