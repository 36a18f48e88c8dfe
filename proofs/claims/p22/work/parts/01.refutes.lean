/-! THE STATEMENT AS PRINTED HAS A FALSE INSTANCE (class 59223b2). Run as a WHOLE round: 'start1' is the claim's own witness, which a light round doesn't have. -/
/-- an array class over int, which findClass doesn't find under "[I"; it declares Object's methods anew -/
def kz_odd : Class := { start1.cArr "odd" 19 .int with super := some 26, methods := start1.cObjectC.methods }
/-- the class above it declares them private, and its own superclass isn't there -/
def kz_odd2 : Class := { start1.cArr "odd2" 19 .int with super := some 999, methods := start1.cObjectC.methods.map (fun x => { x with accessFlags := 2 }) }
/-- the witness's own start, but that CourierDesk.WITHOUT is an array of the odd class: of the same five ints -/
def kz_bad : State := { start1.about with vm := { start1.about.vm with classes := (start1.about.vm.classes.push kz_odd).push kz_odd2 }, heap := start1.about.heap.setIfInBounds 5 { cls := 25, slots := #[.int 24, .int 8, .int 20, .int 1, .int 0], vm := .none } }
theorem kz_find {nm : String} {c : ClassId} (h : start1.about.vm.findClass nm = some c) : kz_bad.vm.findClass nm = some c := by
  unfold Vm.findClass at h ⊢
  show ((start1.about.vm.classes.push kz_odd).push kz_odd2).findIdx? _ = some c
  rw [Array.findIdx?_push, Array.findIdx?_push, h]
  rfl
theorem kz_cls {c : Nat} {k : Class} (h : start1.about.vm.classes[c]? = some k) : kz_bad.vm.classes[c]? = some k := by
  have hc : c < start1.about.vm.classes.size := (Array.getElem?_eq_some_iff.mp h).1
  show ((start1.about.vm.classes.push kz_odd).push kz_odd2)[c]? = some k
  rw [Array.getElem?_push, if_neg (by rw [Array.size_push]; omega), Array.getElem?_push, if_neg (by omega)]
  exact h
theorem kz_named {y : MethodName} {m : MethodId} (h : start1.about.methodNamed? y = some m) : kz_bad.methodNamed? y = some m := by
  simp only [State.methodNamed?, Option.bind_eq_bind, Option.bind_eq_some_iff] at h ⊢
  obtain ⟨c, hc, k, hk, i, hi, e⟩ := h
  exact ⟨c, kz_find hc, k, kz_cls hk, i, hi, e⟩
theorem kz_meth {m : MethodId} {x : Method} (h : start1.about.vm.method? m = some x) : kz_bad.vm.method? m = some x := by
  simp only [Vm.method?, Option.bind_eq_bind, Option.bind_eq_some_iff] at h ⊢
  obtain ⟨k, hk, e⟩ := h
  exact ⟨k, kz_cls hk, e⟩
theorem kz_code {y : MethodName} {b : ByteArray} {n : Nat} {r : Option FieldType} (h : (Cond.code y b n r).before start1.args0 start1.about = true) : (Cond.code y b n r).before start1.args0 kz_bad = true := by
  cases hn : start1.about.methodNamed? y with
  | none => simp [Cond.before, Cond.holds, Cond.value, hn] at h
  | some m =>
    cases hm : start1.about.vm.method? m with
    | none => simp [Cond.before, Cond.holds, Cond.value, hn, hm] at h
    | some x =>
      simp only [Cond.before, Cond.holds, Cond.value, hn, Option.bind_some, hm] at h
      simp only [Cond.before, Cond.holds, Cond.value, kz_named hn, Option.bind_some, kz_meth hm]
      exact h
theorem kz_codes {l : List Cond} (hl : ∀ c ∈ l, c ∈ tables_1) : ∀ c ∈ l.filter su_isCode, c.before start1.args0 kz_bad = true := by
  intro c hc
  obtain ⟨h1, h2⟩ := List.mem_filter.mp hc
  have h3 := start1.words c (List.mem_cons_of_mem _ (hl c h1))
  cases c <;> first | exact kz_code h3 | (simp [su_isCode] at h2)
set_option maxRecDepth 16384 in
theorem kz_o_1_0 : (tables_1_1.take 30).all (fun c => su_isCode c || c.before start1.args0 kz_bad) = true := by decide +kernel
set_option maxRecDepth 16384 in
theorem kz_o_1_1 : ((tables_1_1.drop 30).take 30).all (fun c => su_isCode c || c.before start1.args0 kz_bad) = true := by decide +kernel
set_option maxRecDepth 16384 in
theorem kz_o_1_2 : (((tables_1_1.drop 30).drop 30).take 30).all (fun c => su_isCode c || c.before start1.args0 kz_bad) = true := by decide +kernel
set_option maxRecDepth 16384 in
theorem kz_o_1_3 : ((((tables_1_1.drop 30).drop 30).drop 30).take 30).all (fun c => su_isCode c || c.before start1.args0 kz_bad) = true := by decide +kernel
set_option maxRecDepth 16384 in
theorem kz_o_1_4 : (((((tables_1_1.drop 30).drop 30).drop 30).drop 30).take 30).all (fun c => su_isCode c || c.before start1.args0 kz_bad) = true := by decide +kernel
set_option maxRecDepth 16384 in
theorem kz_o_1_5 : ((((((tables_1_1.drop 30).drop 30).drop 30).drop 30).drop 30).take 30).all (fun c => su_isCode c || c.before start1.args0 kz_bad) = true := by decide +kernel
set_option maxRecDepth 16384 in
theorem kz_o_1_6 : (((((((tables_1_1.drop 30).drop 30).drop 30).drop 30).drop 30).drop 30).take 30).all (fun c => su_isCode c || c.before start1.args0 kz_bad) = true := by decide +kernel
set_option maxRecDepth 16384 in
theorem kz_o_1_7 : (((((((tables_1_1.drop 30).drop 30).drop 30).drop 30).drop 30).drop 30).drop 30).all (fun c => su_isCode c || c.before start1.args0 kz_bad) = true := by decide +kernel
theorem kz_all_1 : tables_1_1.all (fun c => su_isCode c || c.before start1.args0 kz_bad) = true := (start1.su_all_split _ 30 tables_1_1 kz_o_1_0 (start1.su_all_split _ 30 (tables_1_1.drop 30) kz_o_1_1 (start1.su_all_split _ 30 ((tables_1_1.drop 30).drop 30) kz_o_1_2 (start1.su_all_split _ 30 (((tables_1_1.drop 30).drop 30).drop 30) kz_o_1_3 (start1.su_all_split _ 30 ((((tables_1_1.drop 30).drop 30).drop 30).drop 30) kz_o_1_4 (start1.su_all_split _ 30 (((((tables_1_1.drop 30).drop 30).drop 30).drop 30).drop 30) kz_o_1_5 (start1.su_all_split _ 30 ((((((tables_1_1.drop 30).drop 30).drop 30).drop 30).drop 30).drop 30) kz_o_1_6 kz_o_1_7)))))))
set_option maxRecDepth 16384 in
theorem kz_o_2_0 : (tables_1_2.take 30).all (fun c => su_isCode c || c.before start1.args0 kz_bad) = true := by decide +kernel
set_option maxRecDepth 16384 in
theorem kz_o_2_1 : ((tables_1_2.drop 30).take 30).all (fun c => su_isCode c || c.before start1.args0 kz_bad) = true := by decide +kernel
set_option maxRecDepth 16384 in
theorem kz_o_2_2 : (((tables_1_2.drop 30).drop 30).take 30).all (fun c => su_isCode c || c.before start1.args0 kz_bad) = true := by decide +kernel
set_option maxRecDepth 16384 in
theorem kz_o_2_3 : ((((tables_1_2.drop 30).drop 30).drop 30).take 30).all (fun c => su_isCode c || c.before start1.args0 kz_bad) = true := by decide +kernel
set_option maxRecDepth 16384 in
theorem kz_o_2_4 : (((((tables_1_2.drop 30).drop 30).drop 30).drop 30).take 30).all (fun c => su_isCode c || c.before start1.args0 kz_bad) = true := by decide +kernel
set_option maxRecDepth 16384 in
theorem kz_o_2_5 : ((((((tables_1_2.drop 30).drop 30).drop 30).drop 30).drop 30).take 30).all (fun c => su_isCode c || c.before start1.args0 kz_bad) = true := by decide +kernel
set_option maxRecDepth 16384 in
theorem kz_o_2_6 : (((((((tables_1_2.drop 30).drop 30).drop 30).drop 30).drop 30).drop 30).take 30).all (fun c => su_isCode c || c.before start1.args0 kz_bad) = true := by decide +kernel
set_option maxRecDepth 16384 in
theorem kz_o_2_7 : (((((((tables_1_2.drop 30).drop 30).drop 30).drop 30).drop 30).drop 30).drop 30).all (fun c => su_isCode c || c.before start1.args0 kz_bad) = true := by decide +kernel
theorem kz_all_2 : tables_1_2.all (fun c => su_isCode c || c.before start1.args0 kz_bad) = true := (start1.su_all_split _ 30 tables_1_2 kz_o_2_0 (start1.su_all_split _ 30 (tables_1_2.drop 30) kz_o_2_1 (start1.su_all_split _ 30 ((tables_1_2.drop 30).drop 30) kz_o_2_2 (start1.su_all_split _ 30 (((tables_1_2.drop 30).drop 30).drop 30) kz_o_2_3 (start1.su_all_split _ 30 ((((tables_1_2.drop 30).drop 30).drop 30).drop 30) kz_o_2_4 (start1.su_all_split _ 30 (((((tables_1_2.drop 30).drop 30).drop 30).drop 30).drop 30) kz_o_2_5 (start1.su_all_split _ 30 ((((((tables_1_2.drop 30).drop 30).drop 30).drop 30).drop 30).drop 30) kz_o_2_6 kz_o_2_7)))))))
set_option maxRecDepth 16384 in
theorem kz_o_3_0 : (tables_1_3.take 30).all (fun c => su_isCode c || c.before start1.args0 kz_bad) = true := by decide +kernel
set_option maxRecDepth 16384 in
theorem kz_o_3_1 : ((tables_1_3.drop 30).take 30).all (fun c => su_isCode c || c.before start1.args0 kz_bad) = true := by decide +kernel
set_option maxRecDepth 16384 in
theorem kz_o_3_2 : (((tables_1_3.drop 30).drop 30).take 30).all (fun c => su_isCode c || c.before start1.args0 kz_bad) = true := by decide +kernel
set_option maxRecDepth 16384 in
theorem kz_o_3_3 : ((((tables_1_3.drop 30).drop 30).drop 30).take 30).all (fun c => su_isCode c || c.before start1.args0 kz_bad) = true := by decide +kernel
set_option maxRecDepth 16384 in
theorem kz_o_3_4 : (((((tables_1_3.drop 30).drop 30).drop 30).drop 30).take 30).all (fun c => su_isCode c || c.before start1.args0 kz_bad) = true := by decide +kernel
set_option maxRecDepth 16384 in
theorem kz_o_3_5 : ((((((tables_1_3.drop 30).drop 30).drop 30).drop 30).drop 30).take 30).all (fun c => su_isCode c || c.before start1.args0 kz_bad) = true := by decide +kernel
set_option maxRecDepth 16384 in
theorem kz_o_3_6 : (((((((tables_1_3.drop 30).drop 30).drop 30).drop 30).drop 30).drop 30).take 30).all (fun c => su_isCode c || c.before start1.args0 kz_bad) = true := by decide +kernel
set_option maxRecDepth 16384 in
theorem kz_o_3_7 : (((((((tables_1_3.drop 30).drop 30).drop 30).drop 30).drop 30).drop 30).drop 30).all (fun c => su_isCode c || c.before start1.args0 kz_bad) = true := by decide +kernel
theorem kz_all_3 : tables_1_3.all (fun c => su_isCode c || c.before start1.args0 kz_bad) = true := (start1.su_all_split _ 30 tables_1_3 kz_o_3_0 (start1.su_all_split _ 30 (tables_1_3.drop 30) kz_o_3_1 (start1.su_all_split _ 30 ((tables_1_3.drop 30).drop 30) kz_o_3_2 (start1.su_all_split _ 30 (((tables_1_3.drop 30).drop 30).drop 30) kz_o_3_3 (start1.su_all_split _ 30 ((((tables_1_3.drop 30).drop 30).drop 30).drop 30) kz_o_3_4 (start1.su_all_split _ 30 (((((tables_1_3.drop 30).drop 30).drop 30).drop 30).drop 30) kz_o_3_5 (start1.su_all_split _ 30 ((((((tables_1_3.drop 30).drop 30).drop 30).drop 30).drop 30).drop 30) kz_o_3_6 kz_o_3_7)))))))
set_option maxRecDepth 16384 in
theorem kz_o_4_0 : (tables_1_4.take 30).all (fun c => su_isCode c || c.before start1.args0 kz_bad) = true := by decide +kernel
set_option maxRecDepth 16384 in
theorem kz_o_4_1 : ((tables_1_4.drop 30).take 30).all (fun c => su_isCode c || c.before start1.args0 kz_bad) = true := by decide +kernel
set_option maxRecDepth 16384 in
theorem kz_o_4_2 : (((tables_1_4.drop 30).drop 30).take 30).all (fun c => su_isCode c || c.before start1.args0 kz_bad) = true := by decide +kernel
set_option maxRecDepth 16384 in
theorem kz_o_4_3 : ((((tables_1_4.drop 30).drop 30).drop 30).take 30).all (fun c => su_isCode c || c.before start1.args0 kz_bad) = true := by decide +kernel
set_option maxRecDepth 16384 in
theorem kz_o_4_4 : (((((tables_1_4.drop 30).drop 30).drop 30).drop 30).take 30).all (fun c => su_isCode c || c.before start1.args0 kz_bad) = true := by decide +kernel
set_option maxRecDepth 16384 in
theorem kz_o_4_5 : ((((((tables_1_4.drop 30).drop 30).drop 30).drop 30).drop 30).take 30).all (fun c => su_isCode c || c.before start1.args0 kz_bad) = true := by decide +kernel
set_option maxRecDepth 16384 in
theorem kz_o_4_6 : (((((((tables_1_4.drop 30).drop 30).drop 30).drop 30).drop 30).drop 30).take 30).all (fun c => su_isCode c || c.before start1.args0 kz_bad) = true := by decide +kernel
set_option maxRecDepth 16384 in
theorem kz_o_4_7 : (((((((tables_1_4.drop 30).drop 30).drop 30).drop 30).drop 30).drop 30).drop 30).all (fun c => su_isCode c || c.before start1.args0 kz_bad) = true := by decide +kernel
theorem kz_all_4 : tables_1_4.all (fun c => su_isCode c || c.before start1.args0 kz_bad) = true := (start1.su_all_split _ 30 tables_1_4 kz_o_4_0 (start1.su_all_split _ 30 (tables_1_4.drop 30) kz_o_4_1 (start1.su_all_split _ 30 ((tables_1_4.drop 30).drop 30) kz_o_4_2 (start1.su_all_split _ 30 (((tables_1_4.drop 30).drop 30).drop 30) kz_o_4_3 (start1.su_all_split _ 30 ((((tables_1_4.drop 30).drop 30).drop 30).drop 30) kz_o_4_4 (start1.su_all_split _ 30 (((((tables_1_4.drop 30).drop 30).drop 30).drop 30).drop 30) kz_o_4_5 (start1.su_all_split _ 30 ((((((tables_1_4.drop 30).drop 30).drop 30).drop 30).drop 30).drop 30) kz_o_4_6 kz_o_4_7)))))))
set_option maxRecDepth 16384 in
theorem kz_o_5_0 : (tables_1_5.take 30).all (fun c => su_isCode c || c.before start1.args0 kz_bad) = true := by decide +kernel
set_option maxRecDepth 16384 in
theorem kz_o_5_1 : (tables_1_5.drop 30).all (fun c => su_isCode c || c.before start1.args0 kz_bad) = true := by decide +kernel
theorem kz_all_5 : tables_1_5.all (fun c => su_isCode c || c.before start1.args0 kz_bad) = true := (start1.su_all_split _ 30 tables_1_5 kz_o_5_0 kz_o_5_1)
theorem kz_w_1 : ∀ c ∈ tables_1_1, c.before start1.args0 kz_bad = true := su_words kz_all_1 (kz_codes (fun c h => by unfold tables_1; exact List.mem_append_left _ h))
theorem kz_w_2 : ∀ c ∈ tables_1_2, c.before start1.args0 kz_bad = true := su_words kz_all_2 (kz_codes (fun c h => by unfold tables_1; exact List.mem_append_right _ (List.mem_append_left _ h)))
theorem kz_w_3 : ∀ c ∈ tables_1_3, c.before start1.args0 kz_bad = true := su_words kz_all_3 (kz_codes (fun c h => by unfold tables_1; exact List.mem_append_right _ (List.mem_append_right _ (List.mem_append_left _ h))))
theorem kz_w_4 : ∀ c ∈ tables_1_4, c.before start1.args0 kz_bad = true := su_words kz_all_4 (kz_codes (fun c h => by unfold tables_1; exact List.mem_append_right _ (List.mem_append_right _ (List.mem_append_right _ (List.mem_append_left _ h)))))
theorem kz_w_5 : ∀ c ∈ tables_1_5, c.before start1.args0 kz_bad = true := su_words kz_all_5 (kz_codes (fun c h => by unfold tables_1; exact List.mem_append_right _ (List.mem_append_right _ (List.mem_append_right _ (List.mem_append_right _ h)))))
theorem kz_words : ∀ c ∈ (Cond.code x code maxLocals ret :: tables_1), c.before start1.args0 kz_bad = true := by
  intro c hc
  rcases List.mem_cons.mp hc with h | h
  · rw [h]; exact kz_code start1.word_code
  · have h1 : c ∈ tables_1_1 ++ (tables_1_2 ++ (tables_1_3 ++ (tables_1_4 ++ tables_1_5))) := h
    rcases List.mem_append.mp h1 with h2 | h1
    · exact kz_w_1 c h2
    rcases List.mem_append.mp h1 with h2 | h1
    · exact kz_w_2 c h2
    rcases List.mem_append.mp h1 with h2 | h1
    · exact kz_w_3 c h2
    rcases List.mem_append.mp h1 with h2 | h1
    · exact kz_w_4 c h2
    exact kz_w_5 c h1
set_option maxRecDepth 100000 in
theorem kz_stop : (stepsAlone start1.p0.tables start1.e0 23 kz_bad).status ≠ .running := by decide +kernel
set_option maxRecDepth 100000 in
theorem kz_len : ∀ n, n < 23 → 2 ≤ (stepsAlone start1.p0.tables start1.e0 n kz_bad).frames.length := by decide +kernel
set_option maxRecDepth 16384 in
/-- THE STATEMENT AS PRINTED IS FALSE: at this start, which meets all its premises, the machine stops at WITHOUT.clone() -/
theorem kz_false : ¬ Claimed_1_1 := by
  intro h
  obtain ⟨n, o, hw, hr, he, hp⟩ := h launch0 rfl lists_1 trivial start1.p0 start1.e0 (launch0.admits_env _ _ _) fairChoices_fair.cas fairChoices_fair.clock kz_bad ⟨0, 0⟩ start1.args0 Lib.HandBits.below0 rfl (by decide +kernel) (by decide +kernel)
    ((Spec.applies_iff rfl).mpr ⟨rfl, rfl, rfl, by decide +kernel, by decide +kernel, by decide +kernel, launch0.hasRoom_least _ room_1 (by decide +kernel) (by decide +kernel) (by decide +kernel) (by decide +kernel) (by decide +kernel) (by decide +kernel), atoms_intro kz_words⟩)
    ⟨trivial, (show rest_1_c.before start1.args0 kz_bad = true by decide +kernel), (show (Cond.and given_1 narrow_1).before start1.args0 kz_bad = true by decide +kernel)⟩
  rcases Nat.lt_or_ge n 23 with hn | hn
  · have hl := kz_len n hn
    cases o with
    | threw a =>
      have h1 := hp.1
      simp [postC, limb_1_1, Cond.after, Cond.holds, Cond.value] at h1
    | returned v =>
      have h1 := he
      simp only [Ended, Lib.HandBits.below0] at h1
      rw [h1] at hl
      simp at hl
  · obtain ⟨k, rfl⟩ : ∃ k, n = 23 + k := ⟨n - 23, by omega⟩
    rw [stepsAlone_add, stepsAlone_of_not_goesOn _ _ (fun g => kz_stop g.1)] at hr
    exact kz_stop hr
theorem kz_no : ¬ (Claimed_1_1 ∧ Claimed_1_2) := fun h => kz_false h.1
/-! the owed name stands here only so that a whole round can be run over the rows above, none of which uses it: by kz_no it has no proof -/
theorem i_vc : Claimed_1_1 ∧ Claimed_1_2 := sorry
