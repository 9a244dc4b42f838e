/-! The law's helpers -/
theorem mwL_append : MWL yL_append cL_append 4 [(0, 9, 12, 13), (0, 9, 15, 15)] 3 := ⟨big_of (List.mem_of_getElem? (i := 507) (by decide +kernel)) (by decide +kernel), big_of (List.mem_of_getElem? (i := 506) (by decide +kernel)) (by decide +kernel), iniRL, by decide +kernel, by decide⟩
set_option maxRecDepth 20000 in
set_option maxHeartbeats 400000 in
theorem c_L_append (g : Gm) (l : Launch) {σ : Sg} {A : AS} {c : Nat} (hl : l.stackTraces = false) (hC : CR σ A) (hc : c < 65536) : KL g l yL_append cL_append 4 [(0, 9, 12, 13), (0, 9, 15, 15)] 3 1 6 [.inr 69, .inl (c : Int), .inr 81] σ (HPI ((fn (sp_append A c))) σ) := by
  refine startL (own := RL) (by decide +kernel) rfl (Nat.le_of_ble_eq_true rfl) ?_
  intro X hx _ hXl hret hq
  rw [← hXl] at hl
  refine gx_aload_n hx dL_append_0 rfl ?_
  refine gx_iconst hx dL_append_1 ?_
  refine gx_aload_n hx dL_append_2 rfl ?_
  refine gx_iload_n hx dL_append_3 rfl ?_
  refine gx_callC hx hq (c_X8_append _ _ hl hC hc) lkL_7 mwX8_append dL_append_4 (by decide) rfl rfl rfl rfl (Nat.le_of_ble_eq_true rfl) (by decide) ⟨by decide, by decide⟩ (fun E σ1 hE => ?_) (fun z1 σ1 h1 => ?_)
  · obtain ⟨j9, hj9, hE9⟩ := HPI.ex hE
    rcases (show j9 = 0 ∨ j9 = 1 ∨ 2 ≤ j9 by omega) with rfl | rfl | h9
    · cases hj9
      refine ⟨0, _, _, _, rfl, by decide +kernel, by decide +kernel, Or.inl ⟨_, rfl, rfl, dL_append_12⟩, Nat.le_of_ble_eq_true rfl, ?_⟩
      refine gx_iconst hx dL_append_13 ?_
      exact hret _ _ _ _ _ _ _ (by decide) (by decide) dL_append_14 rfl rfl (hE9 (by decide))
    · cases hj9
      refine ⟨1, _, _, _, rfl, by decide +kernel, by decide +kernel, Or.inl ⟨_, rfl, rfl, dL_append_15⟩, Nat.le_of_ble_eq_true rfl, ?_⟩
      refine gx_iconst hx dL_append_16 ?_
      exact hret _ _ _ _ _ _ _ (by decide) (by decide) dL_append_17 rfl rfl (hE9 (by decide))
    · rw [List.getElem?_eq_none h9] at hj9
      cases hj9
  refine gx_last hx dL_append_7 dL_append_8 ?_
  refine gx_goto (tgt := 18) hx dL_append_9 (by decide) ?_
  refine gx_iconst hx dL_append_18 ?_
  exact hret _ _ _ _ _ _ _ (by decide) (by decide) dL_append_19 rfl rfl (HPI.ok h1 rfl)
theorem mwL_insert : MWL yL_insert cL_insert 4 [(0, 9, 12, 21), (0, 9, 15, 13), (0, 9, 18, 15)] 3 := ⟨big_of (List.mem_of_getElem? (i := 613) (by decide +kernel)) (by decide +kernel), big_of (List.mem_of_getElem? (i := 612) (by decide +kernel)) (by decide +kernel), iniRL, by decide +kernel, by decide⟩
set_option maxRecDepth 20000 in
set_option maxHeartbeats 400000 in
theorem c_L_insert (g : Gm) (l : Launch) {σ : Sg} {A : AS} {z : Int} (hl : l.stackTraces = false) (hC : CR σ A) (hz : rg z) : KL g l yL_insert cL_insert 4 [(0, 9, 12, 21), (0, 9, 15, 13), (0, 9, 18, 15)] 7 1 6 [.inr 69, .inl z, .inr 81] σ (HPI ((fn (sp_insert A z))) σ) := by
  refine startL (own := RL) (by decide +kernel) rfl (Nat.le_of_ble_eq_true rfl) ?_
  intro X hx _ hXl hret hq
  rw [← hXl] at hl
  refine gx_aload_n hx dL_insert_0 rfl ?_
  refine gx_iconst hx dL_insert_1 ?_
  refine gx_aload_n hx dL_insert_2 rfl ?_
  refine gx_iload_n hx dL_insert_3 rfl ?_
  refine gx_callC hx hq (c_X8_insert _ _ hl hC hz) lkL_17 mwX8_insert dL_insert_4 (by decide) rfl rfl rfl rfl (Nat.le_of_ble_eq_true rfl) (by decide) ⟨by decide, by decide⟩ (fun E σ1 hE => ?_) (fun z1 σ1 h1 => ?_)
  · obtain ⟨j9, hj9, hE9⟩ := HPI.ex hE
    rcases (show j9 = 0 ∨ j9 = 1 ∨ j9 = 2 ∨ 3 ≤ j9 by omega) with rfl | rfl | rfl | h9
    · cases hj9
      refine ⟨0, _, _, _, rfl, by decide +kernel, by decide +kernel, Or.inl ⟨_, rfl, rfl, dL_insert_12⟩, Nat.le_of_ble_eq_true rfl, ?_⟩
      refine gx_iconst hx dL_insert_13 ?_
      exact hret _ _ _ _ _ _ _ (by decide) (by decide) dL_insert_14 rfl rfl (hE9 (by decide))
    · cases hj9
      refine ⟨1, _, _, _, rfl, by decide +kernel, by decide +kernel, Or.inl ⟨_, rfl, rfl, dL_insert_15⟩, Nat.le_of_ble_eq_true rfl, ?_⟩
      refine gx_iconst hx dL_insert_16 ?_
      exact hret _ _ _ _ _ _ _ (by decide) (by decide) dL_insert_17 rfl rfl (hE9 (by decide))
    · cases hj9
      refine ⟨2, _, _, _, rfl, by decide +kernel, by decide +kernel, Or.inl ⟨_, rfl, rfl, dL_insert_18⟩, Nat.le_of_ble_eq_true rfl, ?_⟩
      refine gx_iconst hx dL_insert_19 ?_
      exact hret _ _ _ _ _ _ _ (by decide) (by decide) dL_insert_20 rfl rfl (hE9 (by decide))
    · rw [List.getElem?_eq_none h9] at hj9
      cases hj9
  refine gx_last hx dL_insert_7 dL_insert_8 ?_
  refine gx_goto (tgt := 21) hx dL_insert_9 (by decide) ?_
  refine gx_iconst hx dL_insert_21 ?_
  exact hret _ _ _ _ _ _ _ (by decide) (by decide) dL_insert_22 rfl rfl (HPI.ok h1 rfl)
theorem mwL_errorPosition : MWL yL_errorPosition cL_errorPosition 3 [(0, 8, 11, 27)] 2 := ⟨big_of (List.mem_of_getElem? (i := 778) (by decide +kernel)) (by decide +kernel), big_of (List.mem_of_getElem? (i := 777) (by decide +kernel)) (by decide +kernel), iniRL, by decide +kernel, by decide⟩
set_option maxRecDepth 20000 in
set_option maxHeartbeats 400000 in
theorem c_L_errorPosition (g : Gm) (l : Launch) {σ : Sg} {A : AS} (hl : l.stackTraces = false) (hC : CR σ A) : KL g l yL_errorPosition cL_errorPosition 3 [(0, 8, 11, 27)] 2 1 6 [.inr 69, .inr 81] σ (HPI ((fn (sp_errorPosition A))) σ) := by
  refine startL (own := RL) (by decide +kernel) rfl (Nat.le_of_ble_eq_true rfl) ?_
  intro X hx _ hXl hret hq
  rw [← hXl] at hl
  refine gx_aload_n hx dL_errorPosition_0 rfl ?_
  refine gx_iconst hx dL_errorPosition_1 ?_
  refine gx_aload_n hx dL_errorPosition_2 rfl ?_
  refine gx_callC hx hq (c_X8_errorPosition _ _ hl hC) lkL_23 mwX8_errorPosition dL_errorPosition_3 (by decide) rfl rfl rfl rfl (Nat.le_of_ble_eq_true rfl) (by decide) ⟨by decide, by decide⟩ (fun E σ1 hE => ?_) (fun z1 σ1 h1 => ?_)
  · obtain ⟨j9, hj9, hE9⟩ := HPI.ex hE
    rcases (show j9 = 0 ∨ 1 ≤ j9 by omega) with rfl | h9
    · cases hj9
      refine ⟨0, _, _, _, rfl, by decide +kernel, by decide +kernel, Or.inl ⟨_, rfl, rfl, dL_errorPosition_11⟩, Nat.le_of_ble_eq_true rfl, ?_⟩
      refine gx_iconst hx dL_errorPosition_12 ?_
      exact hret _ _ _ _ _ _ _ (by decide) (by decide) dL_errorPosition_13 rfl rfl (hE9 (by decide))
    · rw [List.getElem?_eq_none h9] at hj9
      cases hj9
  refine gx_last hx dL_errorPosition_6 dL_errorPosition_7 ?_
  refine gx_goto (tgt := 14) hx dL_errorPosition_8 (by decide) ?_
  refine gx_iconst hx dL_errorPosition_14 ?_
  exact hret _ _ _ _ _ _ _ (by decide) (by decide) dL_errorPosition_15 rfl rfl (HPI.ok h1 rfl)
theorem mwL_remove : MWL yL_remove cL_remove 4 [(0, 9, 12, 21)] 3 := ⟨big_of (List.mem_of_getElem? (i := 802) (by decide +kernel)) (by decide +kernel), big_of (List.mem_of_getElem? (i := 801) (by decide +kernel)) (by decide +kernel), iniRL, by decide +kernel, by decide⟩
set_option maxRecDepth 20000 in
set_option maxHeartbeats 400000 in
theorem c_L_remove (g : Gm) (l : Launch) {σ : Sg} {A : AS} {z : Int} (hl : l.stackTraces = false) (hC : CR σ A) (hz : rg z) : KL g l yL_remove cL_remove 4 [(0, 9, 12, 21)] 3 1 6 [.inr 69, .inl z, .inr 81] σ (HPI ((fn (sp_remove A z))) σ) := by
  refine startL (own := RL) (by decide +kernel) rfl (Nat.le_of_ble_eq_true rfl) ?_
  intro X hx _ hXl hret hq
  rw [← hXl] at hl
  refine gx_aload_n hx dL_remove_0 rfl ?_
  refine gx_iconst hx dL_remove_1 ?_
  refine gx_aload_n hx dL_remove_2 rfl ?_
  refine gx_iload_n hx dL_remove_3 rfl ?_
  refine gx_callC hx hq (c_X8_remove _ _ hl hC hz) lkL_29 mwX8_remove dL_remove_4 (by decide) rfl rfl rfl rfl (Nat.le_of_ble_eq_true rfl) (by decide) ⟨by decide, by decide⟩ (fun E σ1 hE => ?_) (fun z1 σ1 h1 => ?_)
  · obtain ⟨j9, hj9, hE9⟩ := HPI.ex hE
    rcases (show j9 = 0 ∨ 1 ≤ j9 by omega) with rfl | h9
    · cases hj9
      refine ⟨0, _, _, _, rfl, by decide +kernel, by decide +kernel, Or.inl ⟨_, rfl, rfl, dL_remove_12⟩, Nat.le_of_ble_eq_true rfl, ?_⟩
      refine gx_iconst hx dL_remove_13 ?_
      exact hret _ _ _ _ _ _ _ (by decide) (by decide) dL_remove_14 rfl rfl (hE9 (by decide))
    · rw [List.getElem?_eq_none h9] at hj9
      cases hj9
  refine gx_last hx dL_remove_7 dL_remove_8 ?_
  refine gx_goto (tgt := 15) hx dL_remove_9 (by decide) ?_
  refine gx_iconst hx dL_remove_15 ?_
  exact hret _ _ _ _ _ _ _ (by decide) (by decide) dL_remove_16 rfl rfl (HPI.ok h1 rfl)
theorem mwL_move : MWL yL_move cL_move 5 [(0, 10, 13, 21)] 4 := ⟨big_of (List.mem_of_getElem? (i := 820) (by decide +kernel)) (by decide +kernel), big_of (List.mem_of_getElem? (i := 819) (by decide +kernel)) (by decide +kernel), iniRL, by decide +kernel, by decide⟩
set_option maxRecDepth 20000 in
set_option maxHeartbeats 400000 in
theorem c_L_move (g : Gm) (l : Launch) {σ : Sg} {A : AS} {z w : Int} (hl : l.stackTraces = false) (hC : CR σ A) (hz : rg z) (hw : rg w) : KL g l yL_move cL_move 5 [(0, 10, 13, 21)] 3 2 12 [.inr 69, .inl z, .inl w, .inr 81] σ (HPI ((fn (sp_move A z w))) σ) := by
  refine startL (own := RL) (by decide +kernel) rfl (Nat.le_of_ble_eq_true rfl) ?_
  intro X hx _ hXl hret hq
  rw [← hXl] at hl
  refine gx_aload_n hx dL_move_0 rfl ?_
  refine gx_iconst hx dL_move_1 ?_
  refine gx_aload_n hx dL_move_2 rfl ?_
  refine gx_iload_n hx dL_move_3 rfl ?_
  refine gx_iload_n hx dL_move_4 rfl ?_
  refine gx_callC hx hq (c_X8_move _ _ hl hC hz hw) lkL_32 mwX8_move dL_move_5 (by decide) rfl rfl rfl rfl (Nat.le_of_ble_eq_true rfl) (by decide) ⟨by decide, by decide⟩ (fun E σ1 hE => ?_) (fun z1 σ1 h1 => ?_)
  · obtain ⟨j9, hj9, hE9⟩ := HPI.ex hE
    rcases (show j9 = 0 ∨ 1 ≤ j9 by omega) with rfl | h9
    · cases hj9
      refine ⟨0, _, _, _, rfl, by decide +kernel, by decide +kernel, Or.inr ⟨rfl, dL_move_13⟩, Nat.le_of_ble_eq_true rfl, ?_⟩
      refine gx_iconst hx dL_move_15 ?_
      exact hret _ _ _ _ _ _ _ (by decide) (by decide) dL_move_16 rfl rfl (hE9 (by decide))
    · rw [List.getElem?_eq_none h9] at hj9
      cases hj9
  refine gx_last hx dL_move_8 dL_move_9 ?_
  refine gx_goto (tgt := 17) hx dL_move_10 (by decide) ?_
  refine gx_iconst hx dL_move_17 ?_
  exact hret _ _ _ _ _ _ _ (by decide) (by decide) dL_move_18 rfl rfl (HPI.ok h1 rfl)
theorem mwL_item : MWL yL_item cL_item 5 [(0, 10, 13, 21), (0, 10, 17, 13)] 4 := ⟨big_of (List.mem_of_getElem? (i := 830) (by decide +kernel)) (by decide +kernel), big_of (List.mem_of_getElem? (i := 829) (by decide +kernel)) (by decide +kernel), iniRL, by decide +kernel, by decide⟩
set_option maxRecDepth 20000 in
set_option maxHeartbeats 400000 in
theorem c_L_item (g : Gm) (l : Launch) {σ : Sg} {A : AS} {z w : Int} (hl : l.stackTraces = false) (hC : CR σ A) (hz : rg z) (hw : rg w) : KL g l yL_item cL_item 5 [(0, 10, 13, 21), (0, 10, 17, 13)] 6 2 12 [.inr 69, .inl z, .inl w, .inr 81] σ (HPI ((fn (sp_item A z w))) σ) := by
  refine startL (own := RL) (by decide +kernel) rfl (Nat.le_of_ble_eq_true rfl) ?_
  intro X hx _ hXl hret hq
  rw [← hXl] at hl
  refine gx_aload_n hx dL_item_0 rfl ?_
  refine gx_iconst hx dL_item_1 ?_
  refine gx_aload_n hx dL_item_2 rfl ?_
  refine gx_iload_n hx dL_item_3 rfl ?_
  refine gx_iload_n hx dL_item_4 rfl ?_
  refine gx_callC hx hq (c_X8_item _ _ hl hC hz hw) lkL_36 mwX8_item dL_item_5 (by decide) rfl rfl rfl rfl (Nat.le_of_ble_eq_true rfl) (by decide) ⟨by decide, by decide⟩ (fun E σ1 hE => ?_) (fun z1 σ1 h1 => ?_)
  · obtain ⟨j9, hj9, hE9⟩ := HPI.ex hE
    rcases (show j9 = 0 ∨ j9 = 1 ∨ 2 ≤ j9 by omega) with rfl | rfl | h9
    · cases hj9
      refine ⟨0, _, _, _, rfl, by decide +kernel, by decide +kernel, Or.inr ⟨rfl, dL_item_13⟩, Nat.le_of_ble_eq_true rfl, ?_⟩
      refine gx_iconst hx dL_item_15 ?_
      exact hret _ _ _ _ _ _ _ (by decide) (by decide) dL_item_16 rfl rfl (hE9 (by decide))
    · cases hj9
      refine ⟨1, _, _, _, rfl, by decide +kernel, by decide +kernel, Or.inr ⟨rfl, dL_item_17⟩, Nat.le_of_ble_eq_true rfl, ?_⟩
      refine gx_iconst hx dL_item_19 ?_
      exact hret _ _ _ _ _ _ _ (by decide) (by decide) dL_item_20 rfl rfl (hE9 (by decide))
    · rw [List.getElem?_eq_none h9] at hj9
      cases hj9
  refine gx_last hx dL_item_8 dL_item_9 ?_
  refine gx_goto (tgt := 21) hx dL_item_10 (by decide) ?_
  refine gx_iconst hx dL_item_21 ?_
  exact hret _ _ _ _ _ _ _ (by decide) (by decide) dL_item_22 rfl rfl (HPI.ok h1 rfl)
theorem mwL_nameCharacter : MWL yL_nameCharacter cL_nameCharacter 5 [(0, 10, 13, 21), (0, 10, 17, 27)] 4 := ⟨big_of (List.mem_of_getElem? (i := 840) (by decide +kernel)) (by decide +kernel), big_of (List.mem_of_getElem? (i := 839) (by decide +kernel)) (by decide +kernel), iniRL, by decide +kernel, by decide⟩
set_option maxRecDepth 20000 in
set_option maxHeartbeats 400000 in
theorem c_L_nameCharacter (g : Gm) (l : Launch) {σ : Sg} {A : AS} {z w : Int} (hl : l.stackTraces = false) (hC : CR σ A) (hz : rg z) (hw : rg w) : KL g l yL_nameCharacter cL_nameCharacter 5 [(0, 10, 13, 21), (0, 10, 17, 27)] 6 2 12 [.inr 69, .inl z, .inl w, .inr 81] σ (HPI ((fn (sp_nameCharacter A z w))) σ) := by
  refine startL (own := RL) (by decide +kernel) rfl (Nat.le_of_ble_eq_true rfl) ?_
  intro X hx _ hXl hret hq
  rw [← hXl] at hl
  refine gx_aload_n hx dL_nameCharacter_0 rfl ?_
  refine gx_iconst hx dL_nameCharacter_1 ?_
  refine gx_aload_n hx dL_nameCharacter_2 rfl ?_
  refine gx_iload_n hx dL_nameCharacter_3 rfl ?_
  refine gx_iload_n hx dL_nameCharacter_4 rfl ?_
  refine gx_callC hx hq (c_X8_nameCharacter _ _ hl hC hz hw) lkL_39 mwX8_nameCharacter dL_nameCharacter_5 (by decide) rfl rfl rfl rfl (Nat.le_of_ble_eq_true rfl) (by decide) ⟨by decide, by decide⟩ (fun E σ1 hE => ?_) (fun z1 σ1 h1 => ?_)
  · obtain ⟨j9, hj9, hE9⟩ := HPI.ex hE
    rcases (show j9 = 0 ∨ j9 = 1 ∨ 2 ≤ j9 by omega) with rfl | rfl | h9
    · cases hj9
      refine ⟨0, _, _, _, rfl, by decide +kernel, by decide +kernel, Or.inr ⟨rfl, dL_nameCharacter_13⟩, Nat.le_of_ble_eq_true rfl, ?_⟩
      refine gx_iconst hx dL_nameCharacter_15 ?_
      exact hret _ _ _ _ _ _ _ (by decide) (by decide) dL_nameCharacter_16 rfl rfl (hE9 (by decide))
    · cases hj9
      refine ⟨1, _, _, _, rfl, by decide +kernel, by decide +kernel, Or.inr ⟨rfl, dL_nameCharacter_17⟩, Nat.le_of_ble_eq_true rfl, ?_⟩
      refine gx_iconst hx dL_nameCharacter_19 ?_
      exact hret _ _ _ _ _ _ _ (by decide) (by decide) dL_nameCharacter_20 rfl rfl (hE9 (by decide))
    · rw [List.getElem?_eq_none h9] at hj9
      cases hj9
  refine gx_last hx dL_nameCharacter_8 dL_nameCharacter_9 ?_
  refine gx_goto (tgt := 21) hx dL_nameCharacter_10 (by decide) ?_
  refine gx_iconst hx dL_nameCharacter_21 ?_
  exact hret _ _ _ _ _ _ _ (by decide) (by decide) dL_nameCharacter_22 rfl rfl (HPI.ok h1 rfl)
theorem mwL_setForm : MWL yL_setForm cL_setForm 5 [(0, 10, 13, 21), (0, 10, 17, 13)] 4 := ⟨big_of (List.mem_of_getElem? (i := 851) (by decide +kernel)) (by decide +kernel), big_of (List.mem_of_getElem? (i := 850) (by decide +kernel)) (by decide +kernel), iniRL, by decide +kernel, by decide⟩
set_option maxRecDepth 20000 in
set_option maxHeartbeats 400000 in
theorem c_L_setForm (g : Gm) (l : Launch) {σ : Sg} {A : AS} {z w : Int} (hl : l.stackTraces = false) (hC : CR σ A) (hz : rg z) (hw : rg w) : KL g l yL_setForm cL_setForm 5 [(0, 10, 13, 21), (0, 10, 17, 13)] 4 3 18 [.inr 69, .inl z, .inl w, .inr 81] σ (HPI ((fn (sp_setForm A z w))) σ) := by
  refine startL (own := RL) (by decide +kernel) rfl (Nat.le_of_ble_eq_true rfl) ?_
  intro X hx _ hXl hret hq
  rw [← hXl] at hl
  refine gx_aload_n hx dL_setForm_0 rfl ?_
  refine gx_iconst hx dL_setForm_1 ?_
  refine gx_aload_n hx dL_setForm_2 rfl ?_
  refine gx_iload_n hx dL_setForm_3 rfl ?_
  refine gx_iload_n hx dL_setForm_4 rfl ?_
  refine gx_callC hx hq (c_X8_setForm _ _ hl hC hz hw) lkL_43 mwX8_setForm dL_setForm_5 (by decide) rfl rfl rfl rfl (Nat.le_of_ble_eq_true rfl) (by decide) ⟨by decide, by decide⟩ (fun E σ1 hE => ?_) (fun z1 σ1 h1 => ?_)
  · obtain ⟨j9, hj9, hE9⟩ := HPI.ex hE
    rcases (show j9 = 0 ∨ j9 = 1 ∨ 2 ≤ j9 by omega) with rfl | rfl | h9
    · cases hj9
      refine ⟨0, _, _, _, rfl, by decide +kernel, by decide +kernel, Or.inr ⟨rfl, dL_setForm_13⟩, Nat.le_of_ble_eq_true rfl, ?_⟩
      refine gx_iconst hx dL_setForm_15 ?_
      exact hret _ _ _ _ _ _ _ (by decide) (by decide) dL_setForm_16 rfl rfl (hE9 (by decide))
    · cases hj9
      refine ⟨1, _, _, _, rfl, by decide +kernel, by decide +kernel, Or.inr ⟨rfl, dL_setForm_17⟩, Nat.le_of_ble_eq_true rfl, ?_⟩
      refine gx_iconst hx dL_setForm_19 ?_
      exact hret _ _ _ _ _ _ _ (by decide) (by decide) dL_setForm_20 rfl rfl (hE9 (by decide))
    · rw [List.getElem?_eq_none h9] at hj9
      cases hj9
  refine gx_last hx dL_setForm_8 dL_setForm_9 ?_
  refine gx_goto (tgt := 21) hx dL_setForm_10 (by decide) ?_
  refine gx_iconst hx dL_setForm_21 ?_
  exact hret _ _ _ _ _ _ _ (by decide) (by decide) dL_setForm_22 rfl rfl (HPI.ok h1 rfl)
theorem mwL_labelAddress : MWL yL_labelAddress cL_labelAddress 4 [(0, 9, 12, 21), (0, 9, 15, 27)] 3 := ⟨big_of (List.mem_of_getElem? (i := 873) (by decide +kernel)) (by decide +kernel), big_of (List.mem_of_getElem? (i := 872) (by decide +kernel)) (by decide +kernel), iniRL, by decide +kernel, by decide⟩
set_option maxRecDepth 20000 in
set_option maxHeartbeats 400000 in
theorem c_L_labelAddress (g : Gm) (l : Launch) {σ : Sg} {A : AS} {z : Int} (hl : l.stackTraces = false) (hC : CR σ A) (hz : rg z) : KL g l yL_labelAddress cL_labelAddress 4 [(0, 9, 12, 21), (0, 9, 15, 27)] 6 1 6 [.inr 69, .inl z, .inr 81] σ (HPI ((fn (sp_labelAddress A z))) σ) := by
  refine startL (own := RL) (by decide +kernel) rfl (Nat.le_of_ble_eq_true rfl) ?_
  intro X hx _ hXl hret hq
  rw [← hXl] at hl
  refine gx_aload_n hx dL_labelAddress_0 rfl ?_
  refine gx_iconst hx dL_labelAddress_1 ?_
  refine gx_aload_n hx dL_labelAddress_2 rfl ?_
  refine gx_iload_n hx dL_labelAddress_3 rfl ?_
  refine gx_callC hx hq (c_X8_labelAddress _ _ hl hC hz) lkL_46 mwX8_labelAddress dL_labelAddress_4 (by decide) rfl rfl rfl rfl (Nat.le_of_ble_eq_true rfl) (by decide) ⟨by decide, by decide⟩ (fun E σ1 hE => ?_) (fun z1 σ1 h1 => ?_)
  · obtain ⟨j9, hj9, hE9⟩ := HPI.ex hE
    rcases (show j9 = 0 ∨ j9 = 1 ∨ 2 ≤ j9 by omega) with rfl | rfl | h9
    · cases hj9
      refine ⟨0, _, _, _, rfl, by decide +kernel, by decide +kernel, Or.inl ⟨_, rfl, rfl, dL_labelAddress_12⟩, Nat.le_of_ble_eq_true rfl, ?_⟩
      refine gx_iconst hx dL_labelAddress_13 ?_
      exact hret _ _ _ _ _ _ _ (by decide) (by decide) dL_labelAddress_14 rfl rfl (hE9 (by decide))
    · cases hj9
      refine ⟨1, _, _, _, rfl, by decide +kernel, by decide +kernel, Or.inl ⟨_, rfl, rfl, dL_labelAddress_15⟩, Nat.le_of_ble_eq_true rfl, ?_⟩
      refine gx_iconst hx dL_labelAddress_16 ?_
      exact hret _ _ _ _ _ _ _ (by decide) (by decide) dL_labelAddress_17 rfl rfl (hE9 (by decide))
    · rw [List.getElem?_eq_none h9] at hj9
      cases hj9
  refine gx_last hx dL_labelAddress_7 dL_labelAddress_8 ?_
  refine gx_goto (tgt := 18) hx dL_labelAddress_9 (by decide) ?_
  refine gx_iconst hx dL_labelAddress_18 ?_
  exact hret _ _ _ _ _ _ _ (by decide) (by decide) dL_labelAddress_19 rfl rfl (HPI.ok h1 rfl)
theorem mwL_itemAt : MWL yL_itemAt cL_itemAt 4 [(0, 9, 12, 21)] 3 := ⟨big_of (List.mem_of_getElem? (i := 883) (by decide +kernel)) (by decide +kernel), big_of (List.mem_of_getElem? (i := 882) (by decide +kernel)) (by decide +kernel), iniRL, by decide +kernel, by decide⟩
set_option maxRecDepth 20000 in
set_option maxHeartbeats 400000 in
theorem c_L_itemAt (g : Gm) (l : Launch) {σ : Sg} {A : AS} {z : Int} (hl : l.stackTraces = false) (hC : CR σ A) (hz : rg z) : KL g l yL_itemAt cL_itemAt 4 [(0, 9, 12, 21)] 6 1 6 [.inr 69, .inl z, .inr 81] σ (HPI ((fn (sp_itemAt A z))) σ) := by
  refine startL (own := RL) (by decide +kernel) rfl (Nat.le_of_ble_eq_true rfl) ?_
  intro X hx _ hXl hret hq
  rw [← hXl] at hl
  refine gx_aload_n hx dL_itemAt_0 rfl ?_
  refine gx_iconst hx dL_itemAt_1 ?_
  refine gx_aload_n hx dL_itemAt_2 rfl ?_
  refine gx_iload_n hx dL_itemAt_3 rfl ?_
  refine gx_callC hx hq (c_X8_itemAt _ _ hl hC hz) lkL_49 mwX8_itemAt dL_itemAt_4 (by decide) rfl rfl rfl rfl (Nat.le_of_ble_eq_true rfl) (by decide) ⟨by decide, by decide⟩ (fun E σ1 hE => ?_) (fun z1 σ1 h1 => ?_)
  · obtain ⟨j9, hj9, hE9⟩ := HPI.ex hE
    rcases (show j9 = 0 ∨ 1 ≤ j9 by omega) with rfl | h9
    · cases hj9
      refine ⟨0, _, _, _, rfl, by decide +kernel, by decide +kernel, Or.inl ⟨_, rfl, rfl, dL_itemAt_12⟩, Nat.le_of_ble_eq_true rfl, ?_⟩
      refine gx_iconst hx dL_itemAt_13 ?_
      exact hret _ _ _ _ _ _ _ (by decide) (by decide) dL_itemAt_14 rfl rfl (hE9 (by decide))
    · rw [List.getElem?_eq_none h9] at hj9
      cases hj9
  refine gx_last hx dL_itemAt_7 dL_itemAt_8 ?_
  refine gx_goto (tgt := 15) hx dL_itemAt_9 (by decide) ?_
  refine gx_iconst hx dL_itemAt_15 ?_
  exact hret _ _ _ _ _ _ _ (by decide) (by decide) dL_itemAt_16 rfl rfl (HPI.ok h1 rfl)
theorem mwL_addressIf : MWL yL_addressIf cL_addressIf 5 [(0, 10, 13, 21), (0, 10, 17, 13)] 4 := ⟨big_of (List.mem_of_getElem? (i := 896) (by decide +kernel)) (by decide +kernel), big_of (List.mem_of_getElem? (i := 895) (by decide +kernel)) (by decide +kernel), iniRL, by decide +kernel, by decide⟩
set_option maxRecDepth 20000 in
set_option maxHeartbeats 400000 in
theorem c_L_addressIf (g : Gm) (l : Launch) {σ : Sg} {A : AS} {z w : Int} (hl : l.stackTraces = false) (hC : CR σ A) (hz : rg z) (hw : rg w) : KL g l yL_addressIf cL_addressIf 5 [(0, 10, 13, 21), (0, 10, 17, 13)] 5 2 12 [.inr 69, .inl z, .inl w, .inr 81] σ (HPI ((fn (sp_addressIf A z w))) σ) := by
  refine startL (own := RL) (by decide +kernel) rfl (Nat.le_of_ble_eq_true rfl) ?_
  intro X hx _ hXl hret hq
  rw [← hXl] at hl
  refine gx_aload_n hx dL_addressIf_0 rfl ?_
  refine gx_iconst hx dL_addressIf_1 ?_
  refine gx_aload_n hx dL_addressIf_2 rfl ?_
  refine gx_iload_n hx dL_addressIf_3 rfl ?_
  refine gx_iload_n hx dL_addressIf_4 rfl ?_
  refine gx_callC hx hq (c_X8_addressIf _ _ hl hC hz hw) lkL_52 mwX8_addressIf dL_addressIf_5 (by decide) rfl rfl rfl rfl (Nat.le_of_ble_eq_true rfl) (by decide) ⟨by decide, by decide⟩ (fun E σ1 hE => ?_) (fun z1 σ1 h1 => ?_)
  · obtain ⟨j9, hj9, hE9⟩ := HPI.ex hE
    rcases (show j9 = 0 ∨ j9 = 1 ∨ 2 ≤ j9 by omega) with rfl | rfl | h9
    · cases hj9
      refine ⟨0, _, _, _, rfl, by decide +kernel, by decide +kernel, Or.inr ⟨rfl, dL_addressIf_13⟩, Nat.le_of_ble_eq_true rfl, ?_⟩
      refine gx_iconst hx dL_addressIf_15 ?_
      exact hret _ _ _ _ _ _ _ (by decide) (by decide) dL_addressIf_16 rfl rfl (hE9 (by decide))
    · cases hj9
      refine ⟨1, _, _, _, rfl, by decide +kernel, by decide +kernel, Or.inr ⟨rfl, dL_addressIf_17⟩, Nat.le_of_ble_eq_true rfl, ?_⟩
      refine gx_iconst hx dL_addressIf_19 ?_
      exact hret _ _ _ _ _ _ _ (by decide) (by decide) dL_addressIf_20 rfl rfl (hE9 (by decide))
    · rw [List.getElem?_eq_none h9] at hj9
      cases hj9
  refine gx_last hx dL_addressIf_8 dL_addressIf_9 ?_
  refine gx_goto (tgt := 21) hx dL_addressIf_10 (by decide) ?_
  refine gx_iconst hx dL_addressIf_21 ?_
  exact hret _ _ _ _ _ _ _ (by decide) (by decide) dL_addressIf_22 rfl rfl (HPI.ok h1 rfl)
theorem mwL_possibleAddresses : MWL yL_possibleAddresses cL_possibleAddresses 4 [(0, 9, 12, 21)] 3 := ⟨big_of (List.mem_of_getElem? (i := 907) (by decide +kernel)) (by decide +kernel), big_of (List.mem_of_getElem? (i := 906) (by decide +kernel)) (by decide +kernel), iniRL, by decide +kernel, by decide⟩
set_option maxRecDepth 20000 in
set_option maxHeartbeats 400000 in
theorem c_L_possibleAddresses (g : Gm) (l : Launch) {σ : Sg} {A : AS} {z : Int} (hl : l.stackTraces = false) (hC : CR σ A) (hz : rg z) : KL g l yL_possibleAddresses cL_possibleAddresses 4 [(0, 9, 12, 21)] 6 1 6 [.inr 69, .inl z, .inr 81] σ (HPI ((fn (sp_possibleAddresses A z))) σ) := by
  refine startL (own := RL) (by decide +kernel) rfl (Nat.le_of_ble_eq_true rfl) ?_
  intro X hx _ hXl hret hq
  rw [← hXl] at hl
  refine gx_aload_n hx dL_possibleAddresses_0 rfl ?_
  refine gx_iconst hx dL_possibleAddresses_1 ?_
  refine gx_aload_n hx dL_possibleAddresses_2 rfl ?_
  refine gx_iload_n hx dL_possibleAddresses_3 rfl ?_
  refine gx_callC hx hq (c_X8_possibleAddresses _ _ hl hC hz) lkL_55 mwX8_possibleAddresses dL_possibleAddresses_4 (by decide) rfl rfl rfl rfl (Nat.le_of_ble_eq_true rfl) (by decide) ⟨by decide, by decide⟩ (fun E σ1 hE => ?_) (fun z1 σ1 h1 => ?_)
  · obtain ⟨j9, hj9, hE9⟩ := HPI.ex hE
    rcases (show j9 = 0 ∨ 1 ≤ j9 by omega) with rfl | h9
    · cases hj9
      refine ⟨0, _, _, _, rfl, by decide +kernel, by decide +kernel, Or.inl ⟨_, rfl, rfl, dL_possibleAddresses_12⟩, Nat.le_of_ble_eq_true rfl, ?_⟩
      refine gx_iconst hx dL_possibleAddresses_13 ?_
      exact hret _ _ _ _ _ _ _ (by decide) (by decide) dL_possibleAddresses_14 rfl rfl (hE9 (by decide))
    · rw [List.getElem?_eq_none h9] at hj9
      cases hj9
  refine gx_last hx dL_possibleAddresses_7 dL_possibleAddresses_8 ?_
  refine gx_goto (tgt := 15) hx dL_possibleAddresses_9 (by decide) ?_
  refine gx_iconst hx dL_possibleAddresses_15 ?_
  exact hret _ _ _ _ _ _ _ (by decide) (by decide) dL_possibleAddresses_16 rfl rfl (HPI.ok h1 rfl)
theorem mwL_formCount : MWL yL_formCount cL_formCount 4 [(0, 9, 12, 13)] 3 := ⟨big_of (List.mem_of_getElem? (i := 935) (by decide +kernel)) (by decide +kernel), big_of (List.mem_of_getElem? (i := 934) (by decide +kernel)) (by decide +kernel), iniRL, by decide +kernel, by decide⟩
set_option maxRecDepth 20000 in
set_option maxHeartbeats 400000 in
theorem c_L_formCount (g : Gm) (l : Launch) {σ : Sg} {A : AS} {z : Int} (hl : l.stackTraces = false) (hC : CR σ A) (hz : rg z) : KL g l yL_formCount cL_formCount 4 [(0, 9, 12, 13)] 4 1 6 [.inr 69, .inl z, .inr 81] σ (HPI ((fn (sp_formCount A z))) σ) := by
  refine startL (own := RL) (by decide +kernel) rfl (Nat.le_of_ble_eq_true rfl) ?_
  intro X hx _ hXl hret hq
  rw [← hXl] at hl
  refine gx_aload_n hx dL_formCount_0 rfl ?_
  refine gx_iconst hx dL_formCount_1 ?_
  refine gx_aload_n hx dL_formCount_2 rfl ?_
  refine gx_iload_n hx dL_formCount_3 rfl ?_
  refine gx_callC hx hq (c_X8_formCount _ _ hl hC hz) lkL_58 mwX8_formCount dL_formCount_4 (by decide) rfl rfl rfl rfl (Nat.le_of_ble_eq_true rfl) (by decide) ⟨by decide, by decide⟩ (fun E σ1 hE => ?_) (fun z1 σ1 h1 => ?_)
  · obtain ⟨j9, hj9, hE9⟩ := HPI.ex hE
    rcases (show j9 = 0 ∨ 1 ≤ j9 by omega) with rfl | h9
    · cases hj9
      refine ⟨0, _, _, _, rfl, by decide +kernel, by decide +kernel, Or.inl ⟨_, rfl, rfl, dL_formCount_12⟩, Nat.le_of_ble_eq_true rfl, ?_⟩
      refine gx_iconst hx dL_formCount_13 ?_
      exact hret _ _ _ _ _ _ _ (by decide) (by decide) dL_formCount_14 rfl rfl (hE9 (by decide))
    · rw [List.getElem?_eq_none h9] at hj9
      cases hj9
  refine gx_last hx dL_formCount_7 dL_formCount_8 ?_
  refine gx_goto (tgt := 15) hx dL_formCount_9 (by decide) ?_
  refine gx_iconst hx dL_formCount_15 ?_
  exact hret _ _ _ _ _ _ _ (by decide) (by decide) dL_formCount_16 rfl rfl (HPI.ok h1 rfl)
theorem mwL_displacement : MWL yL_displacement cL_displacement 4 [(0, 9, 12, 21), (0, 9, 15, 13), (0, 9, 18, 27)] 3 := ⟨big_of (List.mem_of_getElem? (i := 947) (by decide +kernel)) (by decide +kernel), big_of (List.mem_of_getElem? (i := 946) (by decide +kernel)) (by decide +kernel), iniRL, by decide +kernel, by decide⟩
set_option maxRecDepth 20000 in
set_option maxHeartbeats 400000 in
theorem c_L_displacement (g : Gm) (l : Launch) {σ : Sg} {A : AS} {z : Int} (hl : l.stackTraces = false) (hC : CR σ A) (hz : rg z) : KL g l yL_displacement cL_displacement 4 [(0, 9, 12, 21), (0, 9, 15, 13), (0, 9, 18, 27)] 7 3 18 [.inr 69, .inl z, .inr 81] σ (HPI ((fn (sp_tr q_dsp A z))) σ) := by
  refine startL (own := RL) (by decide +kernel) rfl (Nat.le_of_ble_eq_true rfl) ?_
  intro X hx _ hXl hret hq
  rw [← hXl] at hl
  refine gx_aload_n hx dL_displacement_0 rfl ?_
  refine gx_iconst hx dL_displacement_1 ?_
  refine gx_aload_n hx dL_displacement_2 rfl ?_
  refine gx_iload_n hx dL_displacement_3 rfl ?_
  refine gx_callC hx hq (c_X8_displacement _ _ hl hC hz) lkL_61 mwX8_displacement dL_displacement_4 (by decide) rfl rfl rfl rfl (Nat.le_of_ble_eq_true rfl) (by decide) ⟨by decide, by decide⟩ (fun E σ1 hE => ?_) (fun z1 σ1 h1 => ?_)
  · obtain ⟨j9, hj9, hE9⟩ := HPI.ex hE
    rcases (show j9 = 0 ∨ j9 = 1 ∨ j9 = 2 ∨ 3 ≤ j9 by omega) with rfl | rfl | rfl | h9
    · cases hj9
      refine ⟨0, _, _, _, rfl, by decide +kernel, by decide +kernel, Or.inl ⟨_, rfl, rfl, dL_displacement_12⟩, Nat.le_of_ble_eq_true rfl, ?_⟩
      refine gx_iconst hx dL_displacement_13 ?_
      exact hret _ _ _ _ _ _ _ (by decide) (by decide) dL_displacement_14 rfl rfl (hE9 (by decide))
    · cases hj9
      refine ⟨1, _, _, _, rfl, by decide +kernel, by decide +kernel, Or.inl ⟨_, rfl, rfl, dL_displacement_15⟩, Nat.le_of_ble_eq_true rfl, ?_⟩
      refine gx_iconst hx dL_displacement_16 ?_
      exact hret _ _ _ _ _ _ _ (by decide) (by decide) dL_displacement_17 rfl rfl (hE9 (by decide))
    · cases hj9
      refine ⟨2, _, _, _, rfl, by decide +kernel, by decide +kernel, Or.inl ⟨_, rfl, rfl, dL_displacement_18⟩, Nat.le_of_ble_eq_true rfl, ?_⟩
      refine gx_iconst hx dL_displacement_19 ?_
      exact hret _ _ _ _ _ _ _ (by decide) (by decide) dL_displacement_20 rfl rfl (hE9 (by decide))
    · rw [List.getElem?_eq_none h9] at hj9
      cases hj9
  refine gx_last hx dL_displacement_7 dL_displacement_8 ?_
  refine gx_goto (tgt := 21) hx dL_displacement_9 (by decide) ?_
  refine gx_iconst hx dL_displacement_21 ?_
  exact hret _ _ _ _ _ _ _ (by decide) (by decide) dL_displacement_22 rfl rfl (HPI.ok h1 rfl)
theorem mwL_fits : MWL yL_fits cL_fits 4 [(0, 16, 19, 21), (0, 16, 22, 13), (0, 16, 25, 27)] 3 := ⟨big_of (List.mem_of_getElem? (i := 964) (by decide +kernel)) (by decide +kernel), big_of (List.mem_of_getElem? (i := 963) (by decide +kernel)) (by decide +kernel), iniRL, by decide +kernel, by decide⟩
set_option maxRecDepth 20000 in
set_option maxHeartbeats 400000 in
theorem c_L_fits (g : Gm) (l : Launch) {σ : Sg} {A : AS} {z : Int} (hl : l.stackTraces = false) (hC : CR σ A) (hz : rg z) : KL g l yL_fits cL_fits 4 [(0, 16, 19, 21), (0, 16, 22, 13), (0, 16, 25, 27)] 7 3 18 [.inr 69, .inl z, .inr 81] σ (HPI ((fn (sp_tr q_fit A z))) σ) := by
  refine startL (own := RL) (by decide +kernel) rfl (Nat.le_of_ble_eq_true rfl) ?_
  intro X hx _ hXl hret hq
  rw [← hXl] at hl
  refine gx_aload_n hx dL_fits_0 rfl ?_
  refine gx_iconst hx dL_fits_1 ?_
  refine gx_aload_n hx dL_fits_2 rfl ?_
  refine gx_iload_n hx dL_fits_3 rfl ?_
  refine gx_callC hx hq (c_X8_fits _ _ hl hC hz) lkL_64 mwX8_fits dL_fits_4 (by decide) rfl rfl rfl rfl (Nat.le_of_ble_eq_true rfl) (by decide) ⟨by decide, by decide⟩ (fun E σ1 hE => ?_) (fun z1 σ1 h1 => ?_)
  · obtain ⟨j9, hj9, hE9⟩ := HPI.ex hE
    rcases (show j9 = 0 ∨ j9 = 1 ∨ j9 = 2 ∨ 3 ≤ j9 by omega) with rfl | rfl | rfl | h9
    · cases hj9
      refine ⟨0, _, _, _, rfl, by decide +kernel, by decide +kernel, Or.inl ⟨_, rfl, rfl, dL_fits_19⟩, Nat.le_of_ble_eq_true rfl, ?_⟩
      refine gx_iconst hx dL_fits_20 ?_
      exact hret _ _ _ _ _ _ _ (by decide) (by decide) dL_fits_21 rfl rfl (hE9 (by decide))
    · cases hj9
      refine ⟨1, _, _, _, rfl, by decide +kernel, by decide +kernel, Or.inl ⟨_, rfl, rfl, dL_fits_22⟩, Nat.le_of_ble_eq_true rfl, ?_⟩
      refine gx_iconst hx dL_fits_23 ?_
      exact hret _ _ _ _ _ _ _ (by decide) (by decide) dL_fits_24 rfl rfl (hE9 (by decide))
    · cases hj9
      refine ⟨2, _, _, _, rfl, by decide +kernel, by decide +kernel, Or.inl ⟨_, rfl, rfl, dL_fits_25⟩, Nat.le_of_ble_eq_true rfl, ?_⟩
      refine gx_iconst hx dL_fits_26 ?_
      exact hret _ _ _ _ _ _ _ (by decide) (by decide) dL_fits_27 rfl rfl (hE9 (by decide))
    · rw [List.getElem?_eq_none h9] at hj9
      cases hj9
  have h01 : z1 = 0 ∨ z1 = 1 := by
    obtain ⟨A9, h7, _⟩ := h1
    exact fit01 h7
  refine gx_if_eq (tgt := 14) hx dL_fits_7 (by decide) ⟨by omega, by omega⟩ (fun h7 => ?_) (fun h7 => ?_)
  · refine gx_lc0 hx dL_fits_14 dL_fits_15 ?_
    refine gx_goto (tgt := 28) hx dL_fits_16 (by decide) ?_
    refine gx_iconst hx dL_fits_28 ?_
    exact hret _ _ _ _ _ _ _ (by decide) (by decide) dL_fits_29 rfl rfl (HPI.ok h1 (by rw [h7]; decide))
  · refine gx_lc1 (tgt := 15) hx dL_fits_10 dL_fits_11 (by decide) dL_fits_15 ?_
    refine gx_goto (tgt := 28) hx dL_fits_16 (by decide) ?_
    refine gx_iconst hx dL_fits_28 ?_
    exact hret _ _ _ _ _ _ _ (by decide) (by decide) dL_fits_29 rfl rfl (HPI.ok h1 (by rw [show z1 = 1 by omega]; decide))
theorem mwL_misfits : MWL yL_misfits cL_misfits 3 [(0, 8, 11, 15)] 2 := ⟨big_of (List.mem_of_getElem? (i := 979) (by decide +kernel)) (by decide +kernel), big_of (List.mem_of_getElem? (i := 978) (by decide +kernel)) (by decide +kernel), iniRL, by decide +kernel, by decide⟩
set_option maxRecDepth 20000 in
set_option maxHeartbeats 400000 in
theorem c_L_misfits (g : Gm) (l : Launch) {σ : Sg} {A : AS} (hl : l.stackTraces = false) (hC : CR σ A) : KL g l yL_misfits cL_misfits 3 [(0, 8, 11, 15)] 6 1 6 [.inr 69, .inr 81] σ (HPI ((fn (sp_misfits A))) σ) := by
  refine startL (own := RL) (by decide +kernel) rfl (Nat.le_of_ble_eq_true rfl) ?_
  intro X hx _ hXl hret hq
  rw [← hXl] at hl
  refine gx_aload_n hx dL_misfits_0 rfl ?_
  refine gx_iconst hx dL_misfits_1 ?_
  refine gx_aload_n hx dL_misfits_2 rfl ?_
  refine gx_callC hx hq (c_X8_misfits _ _ hl hC) lkL_68 mwX8_misfits dL_misfits_3 (by decide) rfl rfl rfl rfl (Nat.le_of_ble_eq_true rfl) (by decide) ⟨by decide, by decide⟩ (fun E σ1 hE => ?_) (fun z1 σ1 h1 => ?_)
  · obtain ⟨j9, hj9, hE9⟩ := HPI.ex hE
    rcases (show j9 = 0 ∨ 1 ≤ j9 by omega) with rfl | h9
    · cases hj9
      refine ⟨0, _, _, _, rfl, by decide +kernel, by decide +kernel, Or.inl ⟨_, rfl, rfl, dL_misfits_11⟩, Nat.le_of_ble_eq_true rfl, ?_⟩
      refine gx_iconst hx dL_misfits_12 ?_
      exact hret _ _ _ _ _ _ _ (by decide) (by decide) dL_misfits_13 rfl rfl (hE9 (by decide))
    · rw [List.getElem?_eq_none h9] at hj9
      cases hj9
  refine gx_last hx dL_misfits_6 dL_misfits_7 ?_
  refine gx_goto (tgt := 14) hx dL_misfits_8 (by decide) ?_
  refine gx_iconst hx dL_misfits_14 ?_
  exact hret _ _ _ _ _ _ _ (by decide) (by decide) dL_misfits_15 rfl rfl (HPI.ok h1 rfl)
theorem mwL_neededForm : MWL yL_neededForm cL_neededForm 4 [(0, 9, 12, 21), (0, 9, 15, 13), (0, 9, 18, 27)] 3 := ⟨big_of (List.mem_of_getElem? (i := 996) (by decide +kernel)) (by decide +kernel), big_of (List.mem_of_getElem? (i := 995) (by decide +kernel)) (by decide +kernel), iniRL, by decide +kernel, by decide⟩
set_option maxRecDepth 20000 in
set_option maxHeartbeats 400000 in
theorem c_L_neededForm (g : Gm) (l : Launch) {σ : Sg} {A : AS} {z : Int} (hl : l.stackTraces = false) (hC : CR σ A) (hz : rg z) : KL g l yL_neededForm cL_neededForm 4 [(0, 9, 12, 21), (0, 9, 15, 13), (0, 9, 18, 27)] 7 3 18 [.inr 69, .inl z, .inr 81] σ (HPI ((fn (sp_tr q_ndF A z))) σ) := by
  refine startL (own := RL) (by decide +kernel) rfl (Nat.le_of_ble_eq_true rfl) ?_
  intro X hx _ hXl hret hq
  rw [← hXl] at hl
  refine gx_aload_n hx dL_neededForm_0 rfl ?_
  refine gx_iconst hx dL_neededForm_1 ?_
  refine gx_aload_n hx dL_neededForm_2 rfl ?_
  refine gx_iload_n hx dL_neededForm_3 rfl ?_
  refine gx_callC hx hq (c_X8_neededForm _ _ hl hC hz) lkL_71 mwX8_neededForm dL_neededForm_4 (by decide) rfl rfl rfl rfl (Nat.le_of_ble_eq_true rfl) (by decide) ⟨by decide, by decide⟩ (fun E σ1 hE => ?_) (fun z1 σ1 h1 => ?_)
  · obtain ⟨j9, hj9, hE9⟩ := HPI.ex hE
    rcases (show j9 = 0 ∨ j9 = 1 ∨ j9 = 2 ∨ 3 ≤ j9 by omega) with rfl | rfl | rfl | h9
    · cases hj9
      refine ⟨0, _, _, _, rfl, by decide +kernel, by decide +kernel, Or.inl ⟨_, rfl, rfl, dL_neededForm_12⟩, Nat.le_of_ble_eq_true rfl, ?_⟩
      refine gx_iconst hx dL_neededForm_13 ?_
      exact hret _ _ _ _ _ _ _ (by decide) (by decide) dL_neededForm_14 rfl rfl (hE9 (by decide))
    · cases hj9
      refine ⟨1, _, _, _, rfl, by decide +kernel, by decide +kernel, Or.inl ⟨_, rfl, rfl, dL_neededForm_15⟩, Nat.le_of_ble_eq_true rfl, ?_⟩
      refine gx_iconst hx dL_neededForm_16 ?_
      exact hret _ _ _ _ _ _ _ (by decide) (by decide) dL_neededForm_17 rfl rfl (hE9 (by decide))
    · cases hj9
      refine ⟨2, _, _, _, rfl, by decide +kernel, by decide +kernel, Or.inl ⟨_, rfl, rfl, dL_neededForm_18⟩, Nat.le_of_ble_eq_true rfl, ?_⟩
      refine gx_iconst hx dL_neededForm_19 ?_
      exact hret _ _ _ _ _ _ _ (by decide) (by decide) dL_neededForm_20 rfl rfl (hE9 (by decide))
    · rw [List.getElem?_eq_none h9] at hj9
      cases hj9
  refine gx_last hx dL_neededForm_7 dL_neededForm_8 ?_
  refine gx_goto (tgt := 21) hx dL_neededForm_9 (by decide) ?_
  refine gx_iconst hx dL_neededForm_21 ?_
  exact hret _ _ _ _ _ _ _ (by decide) (by decide) dL_neededForm_22 rfl rfl (HPI.ok h1 rfl)
theorem mwL_relax : MWL yL_relax cL_relax 3 [(0, 8, 11, 15)] 2 := ⟨big_of (List.mem_of_getElem? (i := 1004) (by decide +kernel)) (by decide +kernel), big_of (List.mem_of_getElem? (i := 1003) (by decide +kernel)) (by decide +kernel), iniRL, by decide +kernel, by decide⟩
set_option maxRecDepth 20000 in
set_option maxHeartbeats 400000 in
theorem c_L_relax (g : Gm) (l : Launch) {σ : Sg} {A : AS} (hl : l.stackTraces = false) (hC : CR σ A) : KL g l yL_relax cL_relax 3 [(0, 8, 11, 15)] 7 1 6 [.inr 69, .inr 81] σ (HPI ((sp_relax A)) σ) := by
  refine startL (own := RL) (by decide +kernel) rfl (Nat.le_of_ble_eq_true rfl) ?_
  intro X hx _ hXl hret hq
  rw [← hXl] at hl
  refine gx_aload_n hx dL_relax_0 rfl ?_
  refine gx_iconst hx dL_relax_1 ?_
  refine gx_aload_n hx dL_relax_2 rfl ?_
  refine gx_callC hx hq (c_X8_relax _ _ hl hC) lkL_74 mwX8_relax dL_relax_3 (by decide) rfl rfl rfl rfl (Nat.le_of_ble_eq_true rfl) (by decide) ⟨by decide, by decide⟩ (fun E σ1 hE => ?_) (fun z1 σ1 h1 => ?_)
  · obtain ⟨j9, hj9, hE9⟩ := HPI.ex hE
    rcases (show j9 = 0 ∨ 1 ≤ j9 by omega) with rfl | h9
    · cases hj9
      refine ⟨0, _, _, _, rfl, by decide +kernel, by decide +kernel, Or.inl ⟨_, rfl, rfl, dL_relax_11⟩, Nat.le_of_ble_eq_true rfl, ?_⟩
      refine gx_iconst hx dL_relax_12 ?_
      exact hret _ _ _ _ _ _ _ (by decide) (by decide) dL_relax_13 rfl rfl (hE9 (by decide))
    · rw [List.getElem?_eq_none h9] at hj9
      cases hj9
  refine gx_last hx dL_relax_6 dL_relax_7 ?_
  refine gx_goto (tgt := 14) hx dL_relax_8 (by decide) ?_
  refine gx_iconst hx dL_relax_14 ?_
  exact hret _ _ _ _ _ _ _ (by decide) (by decide) dL_relax_15 rfl rfl (HPI.ok h1 rfl)
theorem mwL_shrink : MWL yL_shrink cL_shrink 3 [(0, 8, 11, 15)] 2 := ⟨big_of (List.mem_of_getElem? (i := 1021) (by decide +kernel)) (by decide +kernel), big_of (List.mem_of_getElem? (i := 1020) (by decide +kernel)) (by decide +kernel), iniRL, by decide +kernel, by decide⟩
set_option maxRecDepth 20000 in
set_option maxHeartbeats 400000 in
theorem c_L_shrink (g : Gm) (l : Launch) {σ : Sg} {A : AS} (hl : l.stackTraces = false) (hC : CR σ A) : KL g l yL_shrink cL_shrink 3 [(0, 8, 11, 15)] 7 2 12 [.inr 69, .inr 81] σ (HPI ((sp_shrink A)) σ) := by
  refine startL (own := RL) (by decide +kernel) rfl (Nat.le_of_ble_eq_true rfl) ?_
  intro X hx _ hXl hret hq
  rw [← hXl] at hl
  refine gx_aload_n hx dL_shrink_0 rfl ?_
  refine gx_iconst hx dL_shrink_1 ?_
  refine gx_aload_n hx dL_shrink_2 rfl ?_
  refine gx_callC hx hq (c_X8_shrink _ _ hl hC) lkL_77 mwX8_shrink dL_shrink_3 (by decide) rfl rfl rfl rfl (Nat.le_of_ble_eq_true rfl) (by decide) ⟨by decide, by decide⟩ (fun E σ1 hE => ?_) (fun z1 σ1 h1 => ?_)
  · obtain ⟨j9, hj9, hE9⟩ := HPI.ex hE
    rcases (show j9 = 0 ∨ 1 ≤ j9 by omega) with rfl | h9
    · cases hj9
      refine ⟨0, _, _, _, rfl, by decide +kernel, by decide +kernel, Or.inl ⟨_, rfl, rfl, dL_shrink_11⟩, Nat.le_of_ble_eq_true rfl, ?_⟩
      refine gx_iconst hx dL_shrink_12 ?_
      exact hret _ _ _ _ _ _ _ (by decide) (by decide) dL_shrink_13 rfl rfl (hE9 (by decide))
    · rw [List.getElem?_eq_none h9] at hj9
      cases hj9
  refine gx_last hx dL_shrink_6 dL_shrink_7 ?_
  refine gx_goto (tgt := 14) hx dL_shrink_8 (by decide) ?_
  refine gx_iconst hx dL_shrink_14 ?_
  exact hret _ _ _ _ _ _ _ (by decide) (by decide) dL_shrink_15 rfl rfl (HPI.ok h1 rfl)
theorem mwL_leastSize : MWL yL_leastSize cL_leastSize 3 [(0, 8, 11, 15), (0, 8, 14, 83)] 2 := ⟨big_of (List.mem_of_getElem? (i := 1038) (by decide +kernel)) (by decide +kernel), big_of (List.mem_of_getElem? (i := 1037) (by decide +kernel)) (by decide +kernel), iniRL, by decide +kernel, by decide⟩
set_option maxRecDepth 20000 in
set_option maxHeartbeats 400000 in
theorem c_L_leastSize (g : Gm) (l : Launch) {σ : Sg} {A : AS} (hl : l.stackTraces = false) (hC : CR σ A) : KL g l yL_leastSize cL_leastSize 3 [(0, 8, 11, 15), (0, 8, 14, 83)] 24 2 12 [.inr 69, .inr 81] σ (HPI ((fn (sp_se (fun P => ((resA P).2.1 : Int)) A))) σ) := by
  refine startL (own := RL) (by decide +kernel) rfl (Nat.le_of_ble_eq_true rfl) ?_
  intro X hx _ hXl hret hq
  rw [← hXl] at hl
  refine gx_aload_n hx dL_leastSize_0 rfl ?_
  refine gx_iconst hx dL_leastSize_1 ?_
  refine gx_aload_n hx dL_leastSize_2 rfl ?_
  refine gx_callC hx hq (c_X8_leastSize _ _ hl hC) lkL_80 mwX8_leastSize dL_leastSize_3 (by decide) rfl rfl rfl rfl (Nat.le_of_ble_eq_true rfl) (by decide) ⟨by decide, by decide⟩ (fun E σ1 hE => ?_) (fun z1 σ1 h1 => ?_)
  · obtain ⟨j9, hj9, hE9⟩ := HPI.ex hE
    rcases (show j9 = 0 ∨ j9 = 1 ∨ 2 ≤ j9 by omega) with rfl | rfl | h9
    · cases hj9
      refine ⟨0, _, _, _, rfl, by decide +kernel, by decide +kernel, Or.inl ⟨_, rfl, rfl, dL_leastSize_11⟩, Nat.le_of_ble_eq_true rfl, ?_⟩
      refine gx_iconst hx dL_leastSize_12 ?_
      exact hret _ _ _ _ _ _ _ (by decide) (by decide) dL_leastSize_13 rfl rfl (hE9 (by decide))
    · cases hj9
      refine ⟨1, _, _, _, rfl, by decide +kernel, by decide +kernel, Or.inl ⟨_, rfl, rfl, dL_leastSize_14⟩, Nat.le_of_ble_eq_true rfl, ?_⟩
      refine gx_iconst hx dL_leastSize_15 ?_
      exact hret _ _ _ _ _ _ _ (by decide) (by decide) dL_leastSize_16 rfl rfl (hE9 (by decide))
    · rw [List.getElem?_eq_none h9] at hj9
      cases hj9
  refine gx_last hx dL_leastSize_6 dL_leastSize_7 ?_
  refine gx_goto (tgt := 17) hx dL_leastSize_8 (by decide) ?_
  refine gx_iconst hx dL_leastSize_17 ?_
  exact hret _ _ _ _ _ _ _ (by decide) (by decide) dL_leastSize_18 rfl rfl (HPI.ok h1 rfl)
theorem mwL_optimize : MWL yL_optimize cL_optimize 3 [(0, 8, 11, 15), (0, 8, 14, 83)] 2 := ⟨big_of (List.mem_of_getElem? (i := 1111) (by decide +kernel)) (by decide +kernel), big_of (List.mem_of_getElem? (i := 1110) (by decide +kernel)) (by decide +kernel), iniRL, by decide +kernel, by decide⟩
set_option maxRecDepth 20000 in
set_option maxHeartbeats 400000 in
theorem c_L_optimize (g : Gm) (l : Launch) {σ : Sg} {A : AS} (hl : l.stackTraces = false) (hC : CR σ A) : KL g l yL_optimize cL_optimize 3 [(0, 8, 11, 15), (0, 8, 14, 83)] 24 2 12 [.inr 69, .inr 81] σ (HPI ((fn (sp_optimize A))) σ) := by
  refine startL (own := RL) (by decide +kernel) rfl (Nat.le_of_ble_eq_true rfl) ?_
  intro X hx _ hXl hret hq
  rw [← hXl] at hl
  refine gx_aload_n hx dL_optimize_0 rfl ?_
  refine gx_iconst hx dL_optimize_1 ?_
  refine gx_aload_n hx dL_optimize_2 rfl ?_
  refine gx_callC hx hq (c_X8_optimize _ _ hl hC) lkL_85 mwX8_optimize dL_optimize_3 (by decide) rfl rfl rfl rfl (Nat.le_of_ble_eq_true rfl) (by decide) ⟨by decide, by decide⟩ (fun E σ1 hE => ?_) (fun z1 σ1 h1 => ?_)
  · obtain ⟨j9, hj9, hE9⟩ := HPI.ex hE
    rcases (show j9 = 0 ∨ j9 = 1 ∨ 2 ≤ j9 by omega) with rfl | rfl | h9
    · cases hj9
      refine ⟨0, _, _, _, rfl, by decide +kernel, by decide +kernel, Or.inl ⟨_, rfl, rfl, dL_optimize_11⟩, Nat.le_of_ble_eq_true rfl, ?_⟩
      refine gx_iconst hx dL_optimize_12 ?_
      exact hret _ _ _ _ _ _ _ (by decide) (by decide) dL_optimize_13 rfl rfl (hE9 (by decide))
    · cases hj9
      refine ⟨1, _, _, _, rfl, by decide +kernel, by decide +kernel, Or.inl ⟨_, rfl, rfl, dL_optimize_14⟩, Nat.le_of_ble_eq_true rfl, ?_⟩
      refine gx_iconst hx dL_optimize_15 ?_
      exact hret _ _ _ _ _ _ _ (by decide) (by decide) dL_optimize_16 rfl rfl (hE9 (by decide))
    · rw [List.getElem?_eq_none h9] at hj9
      cases hj9
  refine gx_last hx dL_optimize_6 dL_optimize_7 ?_
  refine gx_goto (tgt := 17) hx dL_optimize_8 (by decide) ?_
  refine gx_iconst hx dL_optimize_17 ?_
  exact hret _ _ _ _ _ _ _ (by decide) (by decide) dL_optimize_18 rfl rfl (HPI.ok h1 rfl)
theorem mwL_consistentChoices : MWL yL_consistentChoices cL_consistentChoices 3 [(0, 8, 11, 15), (0, 8, 14, 83)] 2 := ⟨big_of (List.mem_of_getElem? (i := 1123) (by decide +kernel)) (by decide +kernel), big_of (List.mem_of_getElem? (i := 1122) (by decide +kernel)) (by decide +kernel), iniRL, by decide +kernel, by decide⟩
set_option maxRecDepth 20000 in
set_option maxHeartbeats 400000 in
theorem c_L_consistentChoices (g : Gm) (l : Launch) {σ : Sg} {A : AS} (hl : l.stackTraces = false) (hC : CR σ A) : KL g l yL_consistentChoices cL_consistentChoices 3 [(0, 8, 11, 15), (0, 8, 14, 83)] 24 2 12 [.inr 69, .inr 81] σ (HPI ((fn (sp_se (fun P => ((resA P).1 : Int)) A))) σ) := by
  refine startL (own := RL) (by decide +kernel) rfl (Nat.le_of_ble_eq_true rfl) ?_
  intro X hx _ hXl hret hq
  rw [← hXl] at hl
  refine gx_aload_n hx dL_consistentChoices_0 rfl ?_
  refine gx_iconst hx dL_consistentChoices_1 ?_
  refine gx_aload_n hx dL_consistentChoices_2 rfl ?_
  refine gx_callC hx hq (c_X8_consistentChoices _ _ hl hC) lkL_88 mwX8_consistentChoices dL_consistentChoices_3 (by decide) rfl rfl rfl rfl (Nat.le_of_ble_eq_true rfl) (by decide) ⟨by decide, by decide⟩ (fun E σ1 hE => ?_) (fun z1 σ1 h1 => ?_)
  · obtain ⟨j9, hj9, hE9⟩ := HPI.ex hE
    rcases (show j9 = 0 ∨ j9 = 1 ∨ 2 ≤ j9 by omega) with rfl | rfl | h9
    · cases hj9
      refine ⟨0, _, _, _, rfl, by decide +kernel, by decide +kernel, Or.inl ⟨_, rfl, rfl, dL_consistentChoices_11⟩, Nat.le_of_ble_eq_true rfl, ?_⟩
      refine gx_iconst hx dL_consistentChoices_12 ?_
      exact hret _ _ _ _ _ _ _ (by decide) (by decide) dL_consistentChoices_13 rfl rfl (hE9 (by decide))
    · cases hj9
      refine ⟨1, _, _, _, rfl, by decide +kernel, by decide +kernel, Or.inl ⟨_, rfl, rfl, dL_consistentChoices_14⟩, Nat.le_of_ble_eq_true rfl, ?_⟩
      refine gx_iconst hx dL_consistentChoices_15 ?_
      exact hret _ _ _ _ _ _ _ (by decide) (by decide) dL_consistentChoices_16 rfl rfl (hE9 (by decide))
    · rw [List.getElem?_eq_none h9] at hj9
      cases hj9
  refine gx_last hx dL_consistentChoices_6 dL_consistentChoices_7 ?_
  refine gx_goto (tgt := 17) hx dL_consistentChoices_8 (by decide) ?_
  refine gx_iconst hx dL_consistentChoices_17 ?_
  exact hret _ _ _ _ _ _ _ (by decide) (by decide) dL_consistentChoices_18 rfl rfl (HPI.ok h1 rfl)
theorem mwL_averageForm : MWL yL_averageForm cL_averageForm 3 [(0, 7, 10, 95)] 2 := ⟨big_of (List.mem_of_getElem? (i := 1134) (by decide +kernel)) (by decide +kernel), big_of (List.mem_of_getElem? (i := 1133) (by decide +kernel)) (by decide +kernel), iniRL, by decide +kernel, by decide⟩
set_option maxRecDepth 20000 in
set_option maxHeartbeats 400000 in
theorem c_L_averageForm (g : Gm) (l : Launch) {σ : Sg} {A : AS} (hl : l.stackTraces = false) (hC : CR σ A) : KL g l yL_averageForm cL_averageForm 3 [(0, 7, 10, 95)] 5 1 6 [.inr 69, .inr 82] σ (HPD A σ) := by
  refine startL (own := RL) (by decide +kernel) rfl (Nat.le_of_ble_eq_true rfl) ?_
  intro X hx _ hXl hret hq
  rw [← hXl] at hl
  refine gx_aload_n hx dL_averageForm_0 rfl ?_
  refine gx_iconst hx dL_averageForm_1 ?_
  refine gx_aload_n hx dL_averageForm_2 rfl ?_
  refine gx_callCD hx hq (c_X8_averageForm _ _ hl hC) lkL_91 mwX8_averageForm dL_averageForm_3 (by decide) rfl rfl rfl rfl (Nat.le_of_ble_eq_true rfl) (by decide) ⟨by decide, by decide⟩ dL_averageForm_6 (fun E σ1 hE => ?_) (fun r1 σ1 h1 => ?_)
  · obtain ⟨rfl, h2, h3⟩ := hE
    refine ⟨0, _, _, _, rfl, by decide +kernel, by decide +kernel, Or.inl ⟨_, rfl, rfl, dL_averageForm_10⟩, Nat.le_of_ble_eq_true rfl, ?_⟩
    refine gx_iconst hx dL_averageForm_11 ?_
    exact hret _ _ _ _ _ _ _ (by decide) (by decide) dL_averageForm_12 rfl rfl ⟨Or.inl ⟨rfl, h2⟩, h3.1, fun k k1 _ _ => h3.2 k k1⟩
  · obtain ⟨h2, rfl, h3⟩ := h1
    refine gx_goto (tgt := 13) hx dL_averageForm_7 (by decide) ?_
    refine gx_iconst hx dL_averageForm_13 ?_
    exact hret _ _ _ _ _ _ _ (by decide) (by decide) dL_averageForm_14 rfl rfl ⟨Or.inr ⟨rfl, h2, upd2_at _ _ _ _⟩, h3.1.out (fun k hk => upd2_other k (by omega)), fun k k1 _ k3 => (upd2_other k k3).trans (h3.2 k k1)⟩
theorem mwL_literalCount : MWL yL_literalCount cL_literalCount 4 [(0, 9, 12, 21)] 3 := ⟨big_of (List.mem_of_getElem? (i := 1163) (by decide +kernel)) (by decide +kernel), big_of (List.mem_of_getElem? (i := 1162) (by decide +kernel)) (by decide +kernel), iniRL, by decide +kernel, by decide⟩
set_option maxRecDepth 20000 in
set_option maxHeartbeats 400000 in
theorem c_L_literalCount (g : Gm) (l : Launch) {σ : Sg} {A : AS} {z : Int} (hl : l.stackTraces = false) (hC : CR σ A) (hz : rg z) : KL g l yL_literalCount cL_literalCount 4 [(0, 9, 12, 21)] 5 1 6 [.inr 69, .inl z, .inr 81] σ (HPI ((fn (sp_literalCount A z))) σ) := by
  refine startL (own := RL) (by decide +kernel) rfl (Nat.le_of_ble_eq_true rfl) ?_
  intro X hx _ hXl hret hq
  rw [← hXl] at hl
  refine gx_aload_n hx dL_literalCount_0 rfl ?_
  refine gx_iconst hx dL_literalCount_1 ?_
  refine gx_aload_n hx dL_literalCount_2 rfl ?_
  refine gx_iload_n hx dL_literalCount_3 rfl ?_
  refine gx_callC hx hq (c_X8_literalCount _ _ hl hC hz) lkL_97 mwX8_literalCount dL_literalCount_4 (by decide) rfl rfl rfl rfl (Nat.le_of_ble_eq_true rfl) (by decide) ⟨by decide, by decide⟩ (fun E σ1 hE => ?_) (fun z1 σ1 h1 => ?_)
  · obtain ⟨j9, hj9, hE9⟩ := HPI.ex hE
    rcases (show j9 = 0 ∨ 1 ≤ j9 by omega) with rfl | h9
    · cases hj9
      refine ⟨0, _, _, _, rfl, by decide +kernel, by decide +kernel, Or.inl ⟨_, rfl, rfl, dL_literalCount_12⟩, Nat.le_of_ble_eq_true rfl, ?_⟩
      refine gx_iconst hx dL_literalCount_13 ?_
      exact hret _ _ _ _ _ _ _ (by decide) (by decide) dL_literalCount_14 rfl rfl (hE9 (by decide))
    · rw [List.getElem?_eq_none h9] at hj9
      cases hj9
  refine gx_last hx dL_literalCount_7 dL_literalCount_8 ?_
  refine gx_goto (tgt := 15) hx dL_literalCount_9 (by decide) ?_
  refine gx_iconst hx dL_literalCount_15 ?_
  exact hret _ _ _ _ _ _ _ (by decide) (by decide) dL_literalCount_16 rfl rfl (HPI.ok h1 rfl)
theorem mwL_literal : MWL yL_literal cL_literal 5 [(0, 10, 13, 21)] 4 := ⟨big_of (List.mem_of_getElem? (i := 1176) (by decide +kernel)) (by decide +kernel), big_of (List.mem_of_getElem? (i := 1175) (by decide +kernel)) (by decide +kernel), iniRL, by decide +kernel, by decide⟩
set_option maxRecDepth 20000 in
set_option maxHeartbeats 400000 in
theorem c_L_literal (g : Gm) (l : Launch) {σ : Sg} {A : AS} {z w : Int} (hl : l.stackTraces = false) (hC : CR σ A) (hz : rg z) (hw : rg w) : KL g l yL_literal cL_literal 5 [(0, 10, 13, 21)] 6 2 12 [.inr 69, .inl z, .inl w, .inr 81] σ (HPI ((fn (sp_lit q_val A z w))) σ) := by
  refine startL (own := RL) (by decide +kernel) rfl (Nat.le_of_ble_eq_true rfl) ?_
  intro X hx _ hXl hret hq
  rw [← hXl] at hl
  refine gx_aload_n hx dL_literal_0 rfl ?_
  refine gx_iconst hx dL_literal_1 ?_
  refine gx_aload_n hx dL_literal_2 rfl ?_
  refine gx_iload_n hx dL_literal_3 rfl ?_
  refine gx_iload_n hx dL_literal_4 rfl ?_
  refine gx_callC hx hq (c_X8_literal _ _ hl hC hz hw) lkL_100 mwX8_literal dL_literal_5 (by decide) rfl rfl rfl rfl (Nat.le_of_ble_eq_true rfl) (by decide) ⟨by decide, by decide⟩ (fun E σ1 hE => ?_) (fun z1 σ1 h1 => ?_)
  · obtain ⟨j9, hj9, hE9⟩ := HPI.ex hE
    rcases (show j9 = 0 ∨ 1 ≤ j9 by omega) with rfl | h9
    · cases hj9
      refine ⟨0, _, _, _, rfl, by decide +kernel, by decide +kernel, Or.inr ⟨rfl, dL_literal_13⟩, Nat.le_of_ble_eq_true rfl, ?_⟩
      refine gx_iconst hx dL_literal_15 ?_
      exact hret _ _ _ _ _ _ _ (by decide) (by decide) dL_literal_16 rfl rfl (hE9 (by decide))
    · rw [List.getElem?_eq_none h9] at hj9
      cases hj9
  refine gx_last hx dL_literal_8 dL_literal_9 ?_
  refine gx_goto (tgt := 17) hx dL_literal_10 (by decide) ?_
  refine gx_iconst hx dL_literal_17 ?_
  exact hret _ _ _ _ _ _ _ (by decide) (by decide) dL_literal_18 rfl rfl (HPI.ok h1 rfl)
theorem mwL_literalAddress : MWL yL_literalAddress cL_literalAddress 5 [(0, 10, 13, 21)] 4 := ⟨big_of (List.mem_of_getElem? (i := 1192) (by decide +kernel)) (by decide +kernel), big_of (List.mem_of_getElem? (i := 1191) (by decide +kernel)) (by decide +kernel), iniRL, by decide +kernel, by decide⟩
set_option maxRecDepth 20000 in
set_option maxHeartbeats 400000 in
theorem c_L_literalAddress (g : Gm) (l : Launch) {σ : Sg} {A : AS} {z w : Int} (hl : l.stackTraces = false) (hC : CR σ A) (hz : rg z) (hw : rg w) : KL g l yL_literalAddress cL_literalAddress 5 [(0, 10, 13, 21)] 6 2 12 [.inr 69, .inl z, .inl w, .inr 81] σ (HPI ((fn (sp_lit q_lad A z w))) σ) := by
  refine startL (own := RL) (by decide +kernel) rfl (Nat.le_of_ble_eq_true rfl) ?_
  intro X hx _ hXl hret hq
  rw [← hXl] at hl
  refine gx_aload_n hx dL_literalAddress_0 rfl ?_
  refine gx_iconst hx dL_literalAddress_1 ?_
  refine gx_aload_n hx dL_literalAddress_2 rfl ?_
  refine gx_iload_n hx dL_literalAddress_3 rfl ?_
  refine gx_iload_n hx dL_literalAddress_4 rfl ?_
  refine gx_callC hx hq (c_X8_literalAddress _ _ hl hC hz hw) lkL_103 mwX8_literalAddress dL_literalAddress_5 (by decide) rfl rfl rfl rfl (Nat.le_of_ble_eq_true rfl) (by decide) ⟨by decide, by decide⟩ (fun E σ1 hE => ?_) (fun z1 σ1 h1 => ?_)
  · obtain ⟨j9, hj9, hE9⟩ := HPI.ex hE
    rcases (show j9 = 0 ∨ 1 ≤ j9 by omega) with rfl | h9
    · cases hj9
      refine ⟨0, _, _, _, rfl, by decide +kernel, by decide +kernel, Or.inr ⟨rfl, dL_literalAddress_13⟩, Nat.le_of_ble_eq_true rfl, ?_⟩
      refine gx_iconst hx dL_literalAddress_15 ?_
      exact hret _ _ _ _ _ _ _ (by decide) (by decide) dL_literalAddress_16 rfl rfl (hE9 (by decide))
    · rw [List.getElem?_eq_none h9] at hj9
      cases hj9
  refine gx_last hx dL_literalAddress_8 dL_literalAddress_9 ?_
  refine gx_goto (tgt := 17) hx dL_literalAddress_10 (by decide) ?_
  refine gx_iconst hx dL_literalAddress_17 ?_
  exact hret _ _ _ _ _ _ _ (by decide) (by decide) dL_literalAddress_18 rfl rfl (HPI.ok h1 rfl)
theorem mwL_poolOf : MWL yL_poolOf cL_poolOf 4 [(0, 9, 12, 21), (0, 9, 15, 13)] 3 := ⟨big_of (List.mem_of_getElem? (i := 1200) (by decide +kernel)) (by decide +kernel), big_of (List.mem_of_getElem? (i := 1199) (by decide +kernel)) (by decide +kernel), iniRL, by decide +kernel, by decide⟩
set_option maxRecDepth 20000 in
set_option maxHeartbeats 400000 in
theorem c_L_poolOf (g : Gm) (l : Launch) {σ : Sg} {A : AS} {z : Int} (hl : l.stackTraces = false) (hC : CR σ A) (hz : rg z) : KL g l yL_poolOf cL_poolOf 4 [(0, 9, 12, 21), (0, 9, 15, 13)] 4 2 12 [.inr 69, .inl z, .inr 81] σ (HPI ((fn (sp_ld q_pno A z))) σ) := by
  refine startL (own := RL) (by decide +kernel) rfl (Nat.le_of_ble_eq_true rfl) ?_
  intro X hx _ hXl hret hq
  rw [← hXl] at hl
  refine gx_aload_n hx dL_poolOf_0 rfl ?_
  refine gx_iconst hx dL_poolOf_1 ?_
  refine gx_aload_n hx dL_poolOf_2 rfl ?_
  refine gx_iload_n hx dL_poolOf_3 rfl ?_
  refine gx_callC hx hq (c_X8_poolOf _ _ hl hC hz) lkL_106 mwX8_poolOf dL_poolOf_4 (by decide) rfl rfl rfl rfl (Nat.le_of_ble_eq_true rfl) (by decide) ⟨by decide, by decide⟩ (fun E σ1 hE => ?_) (fun z1 σ1 h1 => ?_)
  · obtain ⟨j9, hj9, hE9⟩ := HPI.ex hE
    rcases (show j9 = 0 ∨ j9 = 1 ∨ 2 ≤ j9 by omega) with rfl | rfl | h9
    · cases hj9
      refine ⟨0, _, _, _, rfl, by decide +kernel, by decide +kernel, Or.inl ⟨_, rfl, rfl, dL_poolOf_12⟩, Nat.le_of_ble_eq_true rfl, ?_⟩
      refine gx_iconst hx dL_poolOf_13 ?_
      exact hret _ _ _ _ _ _ _ (by decide) (by decide) dL_poolOf_14 rfl rfl (hE9 (by decide))
    · cases hj9
      refine ⟨1, _, _, _, rfl, by decide +kernel, by decide +kernel, Or.inl ⟨_, rfl, rfl, dL_poolOf_15⟩, Nat.le_of_ble_eq_true rfl, ?_⟩
      refine gx_iconst hx dL_poolOf_16 ?_
      exact hret _ _ _ _ _ _ _ (by decide) (by decide) dL_poolOf_17 rfl rfl (hE9 (by decide))
    · rw [List.getElem?_eq_none h9] at hj9
      cases hj9
  refine gx_last hx dL_poolOf_7 dL_poolOf_8 ?_
  refine gx_goto (tgt := 18) hx dL_poolOf_9 (by decide) ?_
  refine gx_iconst hx dL_poolOf_18 ?_
  exact hret _ _ _ _ _ _ _ (by decide) (by decide) dL_poolOf_19 rfl rfl (HPI.ok h1 rfl)
theorem mwL_distance : MWL yL_distance cL_distance 4 [(0, 9, 12, 21), (0, 9, 15, 13)] 3 := ⟨big_of (List.mem_of_getElem? (i := 1213) (by decide +kernel)) (by decide +kernel), big_of (List.mem_of_getElem? (i := 1212) (by decide +kernel)) (by decide +kernel), iniRL, by decide +kernel, by decide⟩
set_option maxRecDepth 20000 in
set_option maxHeartbeats 400000 in
theorem c_L_distance (g : Gm) (l : Launch) {σ : Sg} {A : AS} {z : Int} (hl : l.stackTraces = false) (hC : CR σ A) (hz : rg z) : KL g l yL_distance cL_distance 4 [(0, 9, 12, 21), (0, 9, 15, 13)] 6 2 12 [.inr 69, .inl z, .inr 81] σ (HPI ((fn (sp_ld q_dst A z))) σ) := by
  refine startL (own := RL) (by decide +kernel) rfl (Nat.le_of_ble_eq_true rfl) ?_
  intro X hx _ hXl hret hq
  rw [← hXl] at hl
  refine gx_aload_n hx dL_distance_0 rfl ?_
  refine gx_iconst hx dL_distance_1 ?_
  refine gx_aload_n hx dL_distance_2 rfl ?_
  refine gx_iload_n hx dL_distance_3 rfl ?_
  refine gx_callC hx hq (c_X8_distance _ _ hl hC hz) lkL_109 mwX8_distance dL_distance_4 (by decide) rfl rfl rfl rfl (Nat.le_of_ble_eq_true rfl) (by decide) ⟨by decide, by decide⟩ (fun E σ1 hE => ?_) (fun z1 σ1 h1 => ?_)
  · obtain ⟨j9, hj9, hE9⟩ := HPI.ex hE
    rcases (show j9 = 0 ∨ j9 = 1 ∨ 2 ≤ j9 by omega) with rfl | rfl | h9
    · cases hj9
      refine ⟨0, _, _, _, rfl, by decide +kernel, by decide +kernel, Or.inl ⟨_, rfl, rfl, dL_distance_12⟩, Nat.le_of_ble_eq_true rfl, ?_⟩
      refine gx_iconst hx dL_distance_13 ?_
      exact hret _ _ _ _ _ _ _ (by decide) (by decide) dL_distance_14 rfl rfl (hE9 (by decide))
    · cases hj9
      refine ⟨1, _, _, _, rfl, by decide +kernel, by decide +kernel, Or.inl ⟨_, rfl, rfl, dL_distance_15⟩, Nat.le_of_ble_eq_true rfl, ?_⟩
      refine gx_iconst hx dL_distance_16 ?_
      exact hret _ _ _ _ _ _ _ (by decide) (by decide) dL_distance_17 rfl rfl (hE9 (by decide))
    · rw [List.getElem?_eq_none h9] at hj9
      cases hj9
  refine gx_last hx dL_distance_7 dL_distance_8 ?_
  refine gx_goto (tgt := 18) hx dL_distance_9 (by decide) ?_
  refine gx_iconst hx dL_distance_18 ?_
  exact hret _ _ _ _ _ _ _ (by decide) (by decide) dL_distance_19 rfl rfl (HPI.ok h1 rfl)
theorem mwL_slack : MWL yL_slack cL_slack 4 [(0, 9, 12, 21), (0, 9, 15, 13)] 3 := ⟨big_of (List.mem_of_getElem? (i := 1221) (by decide +kernel)) (by decide +kernel), big_of (List.mem_of_getElem? (i := 1220) (by decide +kernel)) (by decide +kernel), iniRL, by decide +kernel, by decide⟩
set_option maxRecDepth 20000 in
set_option maxHeartbeats 400000 in
theorem c_L_slack (g : Gm) (l : Launch) {σ : Sg} {A : AS} {z : Int} (hl : l.stackTraces = false) (hC : CR σ A) (hz : rg z) : KL g l yL_slack cL_slack 4 [(0, 9, 12, 21), (0, 9, 15, 13)] 6 2 12 [.inr 69, .inl z, .inr 81] σ (HPI ((sp_slack A z)) σ) := by
  refine startL (own := RL) (by decide +kernel) rfl (Nat.le_of_ble_eq_true rfl) ?_
  intro X hx _ hXl hret hq
  rw [← hXl] at hl
  refine gx_aload_n hx dL_slack_0 rfl ?_
  refine gx_iconst hx dL_slack_1 ?_
  refine gx_aload_n hx dL_slack_2 rfl ?_
  refine gx_iload_n hx dL_slack_3 rfl ?_
  refine gx_callC hx hq (c_X8_slack _ _ hl hC hz) lkL_112 mwX8_slack dL_slack_4 (by decide) rfl rfl rfl rfl (Nat.le_of_ble_eq_true rfl) (by decide) ⟨by decide, by decide⟩ (fun E σ1 hE => ?_) (fun z1 σ1 h1 => ?_)
  · obtain ⟨j9, hj9, hE9⟩ := HPI.ex hE
    rcases (show j9 = 0 ∨ j9 = 1 ∨ 2 ≤ j9 by omega) with rfl | rfl | h9
    · cases hj9
      refine ⟨0, _, _, _, rfl, by decide +kernel, by decide +kernel, Or.inl ⟨_, rfl, rfl, dL_slack_12⟩, Nat.le_of_ble_eq_true rfl, ?_⟩
      refine gx_iconst hx dL_slack_13 ?_
      exact hret _ _ _ _ _ _ _ (by decide) (by decide) dL_slack_14 rfl rfl (hE9 (by decide))
    · cases hj9
      refine ⟨1, _, _, _, rfl, by decide +kernel, by decide +kernel, Or.inl ⟨_, rfl, rfl, dL_slack_15⟩, Nat.le_of_ble_eq_true rfl, ?_⟩
      refine gx_iconst hx dL_slack_16 ?_
      exact hret _ _ _ _ _ _ _ (by decide) (by decide) dL_slack_17 rfl rfl (hE9 (by decide))
    · rw [List.getElem?_eq_none h9] at hj9
      cases hj9
  refine gx_last hx dL_slack_7 dL_slack_8 ?_
  refine gx_goto (tgt := 18) hx dL_slack_9 (by decide) ?_
  refine gx_iconst hx dL_slack_18 ?_
  exact hret _ _ _ _ _ _ _ (by decide) (by decide) dL_slack_19 rfl rfl (HPI.ok h1 rfl)
theorem mwL_undo : MWL yL_undo cL_undo 3 [(0, 8, 11, 27)] 2 := ⟨big_of (List.mem_of_getElem? (i := 1232) (by decide +kernel)) (by decide +kernel), big_of (List.mem_of_getElem? (i := 1231) (by decide +kernel)) (by decide +kernel), iniRL, by decide +kernel, by decide⟩
set_option maxRecDepth 20000 in
set_option maxHeartbeats 400000 in
theorem c_L_undo (g : Gm) (l : Launch) {σ : Sg} {A : AS} (hl : l.stackTraces = false) (hC : CR σ A) : KL g l yL_undo cL_undo 3 [(0, 8, 11, 27)] 3 1 6 [.inr 69, .inr 81] σ (HPI ((fn (sp_undo A))) σ) := by
  refine startL (own := RL) (by decide +kernel) rfl (Nat.le_of_ble_eq_true rfl) ?_
  intro X hx _ hXl hret hq
  rw [← hXl] at hl
  refine gx_aload_n hx dL_undo_0 rfl ?_
  refine gx_iconst hx dL_undo_1 ?_
  refine gx_aload_n hx dL_undo_2 rfl ?_
  refine gx_callC hx hq (c_X8_undo _ _ hl hC) lkL_115 mwX8_undo dL_undo_3 (by decide) rfl rfl rfl rfl (Nat.le_of_ble_eq_true rfl) (by decide) ⟨by decide, by decide⟩ (fun E σ1 hE => ?_) (fun z1 σ1 h1 => ?_)
  · obtain ⟨j9, hj9, hE9⟩ := HPI.ex hE
    rcases (show j9 = 0 ∨ 1 ≤ j9 by omega) with rfl | h9
    · cases hj9
      refine ⟨0, _, _, _, rfl, by decide +kernel, by decide +kernel, Or.inl ⟨_, rfl, rfl, dL_undo_11⟩, Nat.le_of_ble_eq_true rfl, ?_⟩
      refine gx_iconst hx dL_undo_12 ?_
      exact hret _ _ _ _ _ _ _ (by decide) (by decide) dL_undo_13 rfl rfl (hE9 (by decide))
    · rw [List.getElem?_eq_none h9] at hj9
      cases hj9
  refine gx_last hx dL_undo_6 dL_undo_7 ?_
  refine gx_goto (tgt := 14) hx dL_undo_8 (by decide) ?_
  refine gx_iconst hx dL_undo_14 ?_
  exact hret _ _ _ _ _ _ _ (by decide) (by decide) dL_undo_15 rfl rfl (HPI.ok h1 rfl)
theorem mwL_restore : MWL yL_restore cL_restore 3 [(0, 8, 11, 15)] 2 := ⟨big_of (List.mem_of_getElem? (i := 1248) (by decide +kernel)) (by decide +kernel), big_of (List.mem_of_getElem? (i := 1247) (by decide +kernel)) (by decide +kernel), iniRL, by decide +kernel, by decide⟩
set_option maxRecDepth 20000 in
set_option maxHeartbeats 400000 in
theorem c_L_restore (g : Gm) (l : Launch) {σ : Sg} {A : AS} (hl : l.stackTraces = false) (hC : CR σ A) : KL g l yL_restore cL_restore 3 [(0, 8, 11, 15)] 2 1 6 [.inr 69, .inr 81] σ (HPI ((fn (sp_restore A))) σ) := by
  refine startL (own := RL) (by decide +kernel) rfl (Nat.le_of_ble_eq_true rfl) ?_
  intro X hx _ hXl hret hq
  rw [← hXl] at hl
  refine gx_aload_n hx dL_restore_0 rfl ?_
  refine gx_iconst hx dL_restore_1 ?_
  refine gx_aload_n hx dL_restore_2 rfl ?_
  refine gx_callC hx hq (c_X8_restore _ _ hl hC) lkL_118 mwX8_restore dL_restore_3 (by decide) rfl rfl rfl rfl (Nat.le_of_ble_eq_true rfl) (by decide) ⟨by decide, by decide⟩ (fun E σ1 hE => ?_) (fun z1 σ1 h1 => ?_)
  · obtain ⟨j9, hj9, hE9⟩ := HPI.ex hE
    rcases (show j9 = 0 ∨ 1 ≤ j9 by omega) with rfl | h9
    · cases hj9
      refine ⟨0, _, _, _, rfl, by decide +kernel, by decide +kernel, Or.inl ⟨_, rfl, rfl, dL_restore_11⟩, Nat.le_of_ble_eq_true rfl, ?_⟩
      refine gx_iconst hx dL_restore_12 ?_
      exact hret _ _ _ _ _ _ _ (by decide) (by decide) dL_restore_13 rfl rfl (hE9 (by decide))
    · rw [List.getElem?_eq_none h9] at hj9
      cases hj9
  refine gx_last hx dL_restore_6 dL_restore_7 ?_
  refine gx_goto (tgt := 14) hx dL_restore_8 (by decide) ?_
  refine gx_iconst hx dL_restore_14 ?_
  exact hret _ _ _ _ _ _ _ (by decide) (by decide) dL_restore_15 rfl rfl (HPI.ok h1 rfl)
