theorem jAll_get {j : Nat} : ∀ (l : List jOp) (k i : Nat), jAll j k l → jSnd j (k + i) (l.getD i jbad)
  | [], k, i, _ => by
    show jSnd j (k + i) ((none : Option jOp).getD jbad)
    exact snd_bad _ _
  | o :: l, k, 0, h => h.1
  | o :: l, k, i + 1, h => by
    have h2 := jAll_get l (k + 1) i h.2
    rw [show k + (i + 1) = k + 1 + i by omega]
    exact h2
def jAllL : Nat → List (List jOp) → Prop
  | _, [] => True
  | j, l :: r => jAll j 0 l ∧ jAllL (j + 1) r
theorem jAllL_get : ∀ (r : List (List jOp)) (k i pc : Nat), jAllL k r → jSnd (k + i) pc ((r.getD i []).getD pc jbad)
  | [], k, i, pc, _ => snd_bad _ _
  | l :: r, k, 0, pc, h => by
    have h2 := jAll_get l 0 pc h.1
    rw [Nat.zero_add] at h2
    exact h2
  | l :: r, k, i + 1, pc, h => by
    have h2 := jAllL_get r (k + 1) i pc h.2
    rw [show k + (i + 1) = k + 1 + i by omega]
    exact h2
theorem tm_all : jAllL 0 tmPl := ⟨ga_L_law, ga_T_init, ga_T_insert, ga_T_delete, ga_T_style, ga_T_comment, ga_T_block, ga_T_undo, ga_T_see, ga_T_meet, ga_T_sign, ga_T_id, ga_T_unit, ga_T_styled, ga_T_run, ga_T_lies, ga_T_paragraph, ga_T_row, ga_T_alike, ga_T_total, ga_T_nodeOf, ga_T_isSign, ga_T_isKey, ga_T_grows, ga_T_shows, ga_T_write, ga_T_knowsNeeds, ga_T_placesOf, ga_T_commentFrom, ga_T_commentTo, ga_T_showAll, ga_T_haveSameComments, ga_T_isSameComment, ga_M_init, ga_M_within, ga_M_knowsRow, ga_M_isBefore, ga_M_judge, ga_M_findOrder, ga_M_findPlaces, ga_M_isDeleted, ga_M_covers, ga_M_findStyles, ga_M_look, ga_M_isNode, ga_M_add, ga_M_isSign, ga_M_insert, ga_M_delete, ga_M_style, ga_M_comment, ga_M_startOf, ga_M_block, ga_M_undo, ga_M_learn, ga_M_see, ga_M_meet, ga_M_isSeen, ga_M_sign, ga_M_id, ga_M_unit, ga_M_styled, ga_M_areAlike, ga_M_findRun, ga_M_run, ga_M_runs, ga_M_lies, ga_M_lying, ga_M_kindOf, ga_M_paragraph, ga_M_row, ga_M_paragraphs, ga_M_kindAt, ga_M_keep, ga_M_alike, ga_M_units, ga_M_knownRows, ga_M_total, ga_N_init, ga_N_known, ga_N_time, ga_N_knows, ga_N_learn, ga_R_init, ga_R_count, ga_R_has, ga_R_cell, ga_R_undoOf, ga_R_inOrderAt, ga_R_placeCount, ga_R_placeAt, ga_R_add, ga_R_isLater, ga_R_fileInOrder, ga_R_fileInPlaces, ga_R_firstPlaceBehind, ga_V_init, ga_V_show, ga_V_markGoodAndSeen, ga_V_hide, ga_V_size, ga_V_isGood, ga_V_hasPlace, ga_V_hasRange, ga_V_insertAt, ga_V_signAt, ga_V_aheadOf, ga_V_aheadBehind, ga_V_unitCount, ga_V_unitAt, ga_V_widthOf, ga_V_partOf, ga_V_paint, ga_V_paintOne, ga_V_endOf, ga_V_valueAt, ga_V_startsRun, ga_V_runCount, ga_V_runStart, ga_V_runEnd, ga_V_paragraphCount, ga_V_paragraphStart, ga_V_paragraphEnd, ga_V_tellKinds, ga_V_keepKind, ga_V_kindFrom, ga_V_hasSameText, ga_V_hasSameKinds, trivial⟩
theorem tm_snd (j pc : Nat) : jSnd j pc (tmP j pc) := by
  have h := jAllL_get tmPl 0 j pc tm_all
  rw [Nat.zero_add] at h
  exact h
theorem tm_adq (l : Launch) (n j pc : Nat) (ls st : List jV) (g : jG) (m : jM) (res : jR) (h : jrun tmP n j pc ls st g m = some res) : jWs l j pc ls st g m res := jAdq tm_snd l n j pc ls st g m res h
