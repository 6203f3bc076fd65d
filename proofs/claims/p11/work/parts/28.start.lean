/-! a start of the kind that the claim speaks of, with the script scF: there the law answers 0 -/
section RF
def wf_cells : Array Value := #[.int 0, .int 0, .int 0, .int 0, .int 0, .int 0, .int 0, .int 0, .int 1, .int 0, .int 0, .int 0, .int 0, .int 2, .int 160, .int 0, .int 0, .int 0, .int 0, .int 5, .int 3147900, .int 5356092, .int 0, .int 0, .int 0, .int 2, .int 80, .int 0, .int 0, .int 0, .int 0, .int 5, .int 3147900, .int 5356092, .int 0, .int 0, .int 0, .int 2, .int 80, .int 0, .int 0, .int 0, .int 0, .int 5, .int 3147900, .int 5356092, .int 0, .int 0, .int 0, .int 2, .int 80, .int 0, .int 0, .int 0, .int 0, .int 9, .int 1, .int 1, .int 0, .int 0, .int 0]
def wf_about : State := start1.aboutOf wf_cells
theorem wf_code {c : Jvm.Cond} (hc : su_isCode c = true) {a : Array Value} {s s' : State} (hv : s'.vm = s.vm) (h : c.before a s = true) : c.before a s' = true := by
  cases c <;> first | (exact absurd hc (show ¬ (false = true) from Bool.false_ne_true)) | skip
  simpa only [Cond.before, Cond.holds, Cond.value, State.methodNamed?, hv] using h
theorem wf_tab {l : List Jvm.Cond} (h1 : ∀ c ∈ l, c.before start1.args0 start1.about = true) (h2 : l.all (fun c => su_isCode c || c.before start1.args0 wf_about) = true) : ∀ c ∈ l, c.before start1.args0 wf_about = true := by
  intro c hc
  have h := List.all_eq_true.mp h2 c hc
  cases hq : su_isCode c with
  | false => simpa [hq] using h
  | true => exact wf_code (s := start1.about) hq rfl (h1 c hc)
set_option maxRecDepth 16384 in
theorem wf_o_1_0 : (tables_1_1.take 40).all (fun c => su_isCode c || c.before start1.args0 wf_about) = true := by decide +kernel
set_option maxRecDepth 16384 in
theorem wf_o_1_1 : ((tables_1_1.drop 40).take 40).all (fun c => su_isCode c || c.before start1.args0 wf_about) = true := by decide +kernel
set_option maxRecDepth 16384 in
theorem wf_o_1_2 : (((tables_1_1.drop 40).drop 40).take 40).all (fun c => su_isCode c || c.before start1.args0 wf_about) = true := by decide +kernel
set_option maxRecDepth 16384 in
theorem wf_o_1_3 : ((((tables_1_1.drop 40).drop 40).drop 40).take 40).all (fun c => su_isCode c || c.before start1.args0 wf_about) = true := by decide +kernel
set_option maxRecDepth 16384 in
theorem wf_o_1_4 : (((((tables_1_1.drop 40).drop 40).drop 40).drop 40).take 40).all (fun c => su_isCode c || c.before start1.args0 wf_about) = true := by decide +kernel
set_option maxRecDepth 16384 in
theorem wf_o_1_5 : (((((tables_1_1.drop 40).drop 40).drop 40).drop 40).drop 40).all (fun c => su_isCode c || c.before start1.args0 wf_about) = true := by decide +kernel
theorem wf_w_1 : ∀ c ∈ tables_1_1, c.before start1.args0 wf_about = true := wf_tab start1.words_1 (start1.su_all_split _ 40 tables_1_1 wf_o_1_0 (start1.su_all_split _ 40 (tables_1_1.drop 40) wf_o_1_1 (start1.su_all_split _ 40 ((tables_1_1.drop 40).drop 40) wf_o_1_2 (start1.su_all_split _ 40 (((tables_1_1.drop 40).drop 40).drop 40) wf_o_1_3 (start1.su_all_split _ 40 ((((tables_1_1.drop 40).drop 40).drop 40).drop 40) wf_o_1_4 wf_o_1_5)))))
set_option maxRecDepth 16384 in
theorem wf_o_2_0 : (tables_1_2.take 40).all (fun c => su_isCode c || c.before start1.args0 wf_about) = true := by decide +kernel
set_option maxRecDepth 16384 in
theorem wf_o_2_1 : ((tables_1_2.drop 40).take 40).all (fun c => su_isCode c || c.before start1.args0 wf_about) = true := by decide +kernel
set_option maxRecDepth 16384 in
theorem wf_o_2_2 : (((tables_1_2.drop 40).drop 40).take 40).all (fun c => su_isCode c || c.before start1.args0 wf_about) = true := by decide +kernel
set_option maxRecDepth 16384 in
theorem wf_o_2_3 : ((((tables_1_2.drop 40).drop 40).drop 40).take 40).all (fun c => su_isCode c || c.before start1.args0 wf_about) = true := by decide +kernel
set_option maxRecDepth 16384 in
theorem wf_o_2_4 : (((((tables_1_2.drop 40).drop 40).drop 40).drop 40).take 40).all (fun c => su_isCode c || c.before start1.args0 wf_about) = true := by decide +kernel
set_option maxRecDepth 16384 in
theorem wf_o_2_5 : (((((tables_1_2.drop 40).drop 40).drop 40).drop 40).drop 40).all (fun c => su_isCode c || c.before start1.args0 wf_about) = true := by decide +kernel
theorem wf_w_2 : ∀ c ∈ tables_1_2, c.before start1.args0 wf_about = true := wf_tab start1.words_2 (start1.su_all_split _ 40 tables_1_2 wf_o_2_0 (start1.su_all_split _ 40 (tables_1_2.drop 40) wf_o_2_1 (start1.su_all_split _ 40 ((tables_1_2.drop 40).drop 40) wf_o_2_2 (start1.su_all_split _ 40 (((tables_1_2.drop 40).drop 40).drop 40) wf_o_2_3 (start1.su_all_split _ 40 ((((tables_1_2.drop 40).drop 40).drop 40).drop 40) wf_o_2_4 wf_o_2_5)))))
set_option maxRecDepth 16384 in
theorem wf_o_3_0 : (tables_1_3.take 40).all (fun c => su_isCode c || c.before start1.args0 wf_about) = true := by decide +kernel
set_option maxRecDepth 16384 in
theorem wf_o_3_1 : ((tables_1_3.drop 40).take 40).all (fun c => su_isCode c || c.before start1.args0 wf_about) = true := by decide +kernel
set_option maxRecDepth 16384 in
theorem wf_o_3_2 : (((tables_1_3.drop 40).drop 40).take 40).all (fun c => su_isCode c || c.before start1.args0 wf_about) = true := by decide +kernel
set_option maxRecDepth 16384 in
theorem wf_o_3_3 : ((((tables_1_3.drop 40).drop 40).drop 40).take 40).all (fun c => su_isCode c || c.before start1.args0 wf_about) = true := by decide +kernel
set_option maxRecDepth 16384 in
theorem wf_o_3_4 : (((((tables_1_3.drop 40).drop 40).drop 40).drop 40).take 40).all (fun c => su_isCode c || c.before start1.args0 wf_about) = true := by decide +kernel
set_option maxRecDepth 16384 in
theorem wf_o_3_5 : (((((tables_1_3.drop 40).drop 40).drop 40).drop 40).drop 40).all (fun c => su_isCode c || c.before start1.args0 wf_about) = true := by decide +kernel
theorem wf_w_3 : ∀ c ∈ tables_1_3, c.before start1.args0 wf_about = true := wf_tab start1.words_3 (start1.su_all_split _ 40 tables_1_3 wf_o_3_0 (start1.su_all_split _ 40 (tables_1_3.drop 40) wf_o_3_1 (start1.su_all_split _ 40 ((tables_1_3.drop 40).drop 40) wf_o_3_2 (start1.su_all_split _ 40 (((tables_1_3.drop 40).drop 40).drop 40) wf_o_3_3 (start1.su_all_split _ 40 ((((tables_1_3.drop 40).drop 40).drop 40).drop 40) wf_o_3_4 wf_o_3_5)))))
set_option maxRecDepth 16384 in
theorem wf_o_4_0 : (tables_1_4.take 40).all (fun c => su_isCode c || c.before start1.args0 wf_about) = true := by decide +kernel
set_option maxRecDepth 16384 in
theorem wf_o_4_1 : ((tables_1_4.drop 40).take 40).all (fun c => su_isCode c || c.before start1.args0 wf_about) = true := by decide +kernel
set_option maxRecDepth 16384 in
theorem wf_o_4_2 : (((tables_1_4.drop 40).drop 40).take 40).all (fun c => su_isCode c || c.before start1.args0 wf_about) = true := by decide +kernel
set_option maxRecDepth 16384 in
theorem wf_o_4_3 : ((((tables_1_4.drop 40).drop 40).drop 40).take 40).all (fun c => su_isCode c || c.before start1.args0 wf_about) = true := by decide +kernel
set_option maxRecDepth 16384 in
theorem wf_o_4_4 : (((((tables_1_4.drop 40).drop 40).drop 40).drop 40).take 40).all (fun c => su_isCode c || c.before start1.args0 wf_about) = true := by decide +kernel
set_option maxRecDepth 16384 in
theorem wf_o_4_5 : (((((tables_1_4.drop 40).drop 40).drop 40).drop 40).drop 40).all (fun c => su_isCode c || c.before start1.args0 wf_about) = true := by decide +kernel
theorem wf_w_4 : ∀ c ∈ tables_1_4, c.before start1.args0 wf_about = true := wf_tab start1.words_4 (start1.su_all_split _ 40 tables_1_4 wf_o_4_0 (start1.su_all_split _ 40 (tables_1_4.drop 40) wf_o_4_1 (start1.su_all_split _ 40 ((tables_1_4.drop 40).drop 40) wf_o_4_2 (start1.su_all_split _ 40 (((tables_1_4.drop 40).drop 40).drop 40) wf_o_4_3 (start1.su_all_split _ 40 ((((tables_1_4.drop 40).drop 40).drop 40).drop 40) wf_o_4_4 wf_o_4_5)))))
theorem wf_words : ∀ c ∈ (Jvm.Cond.code x code maxLocals ret :: tables_1), c.before start1.args0 wf_about = true := by
  intro c hc
  rcases List.mem_cons.mp hc with h | h
  · rw [h]; exact wf_code (s := start1.about) rfl rfl start1.word_code
  · have h1 : c ∈ tables_1_1 ++ (tables_1_2 ++ (tables_1_3 ++ tables_1_4)) := h
    rcases List.mem_append.mp h1 with h2 | h1
    · exact wf_w_1 c h2
    rcases List.mem_append.mp h1 with h2 | h1
    · exact wf_w_2 c h2
    rcases List.mem_append.mp h1 with h2 | h1
    · exact wf_w_3 c h2
    exact wf_w_4 c h1
def wf_pj : Value → Int32
  | .int i => i
  | _ => 0
theorem wf_map (xs : List Int32) : (xs.map Value.int).map wf_pj = xs := by
  induction xs with
  | nil => rfl
  | cons a t ih => show a :: (t.map Value.int).map wf_pj = a :: t; rw [ih]
theorem wf_script : preS (fun xs => xs = scF) start1.args0 wf_about := by
  intro b xs hb hx
  have hb0 : (#[Value.ref 0] : Array Value) = #[Value.ref b] := hb
  have hb1 : b = 0 := by
    have h := congrArg (fun a : Array Value => a[0]?) hb0
    have h : some (Value.ref 0) = some (Value.ref b) := h
    injection h with h
    injection h with h
    exact h.symm
  subst hb1
  obtain ⟨scr, harrAt, hlist, hof, hsmall⟩ := hx
  obtain ⟨hcb, hkn, -, -⟩ := State.arrayAt?_spec harrAt
  have hs : scr.slots = wf_cells := by
    have h : some ({ cls := 20, slots := wf_cells, vm := .none } : Cell) = some scr := hcb
    injection h with h
    rw [← h]
  have h : wf_cells.toList = xs.map Value.int := by rw [← hs]; exact hlist
  have h2 := congrArg (List.map wf_pj) h
  rw [wf_map] at h2
  exact h2.symm
end RF
