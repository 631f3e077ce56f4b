/-! THE LAW'S CALLS OF THE CLASS: what is returned goes on, what is thrown is told -/
theorem sj_cs_16 : Cond.castable "java/lang/IllegalArgumentException" "java/lang/IllegalArgumentException" ∈ sj_XWl := by decide +kernel
theorem sj_cs_18 : Cond.castable "java/lang/IllegalStateException" "java/lang/IllegalStateException" ∈ sj_XWl := by decide +kernel
theorem sj_cs_23 : Cond.castable "java/lang/IndexOutOfBoundsException" "java/lang/IndexOutOfBoundsException" ∈ sj_XWl := by decide +kernel
set_option maxRecDepth 100000 in
set_option maxHeartbeats 100000 in
theorem ct_L_lay_r (l : Launch) {S : sj_St} {x : Nat} (kd_x : sj_kd S x = some 6) (v0 : Int32) {r : Int32} {P : sj_St → Prop} (hc : sj_Ctr l mX6_lay [.ref x, .int v0] S (fun v T => v = some (.int r) ∧ P T)) : sj_CtW l mL_lay [(0, 5, 6, 16), (0, 5, 10, 18)] [.ref x, .int v0] S (fun v T => v = some (.int r) ∧ P T) := by
  refine sj_startW ([some (.ref x), some (.int v0), none]) (by decide +kernel) rfl rfl (fun X hX C hR hH => ?_)
  subst hX
  refine sj_aload_n C 1 rfl dL_lay_0 rfl rfl ?_
  refine sj_iload_n C 2 rfl dL_lay_1 rfl rfl ?_
  refine sj_callV C 5 rfl dL_lay_2 cv_L_10 rfl (hc) rfl rfl rfl ⟨_, _, kd_x, rfl, rfl, by decide⟩ (fun v_2 S_2 hp_2 => ?_)
  obtain ⟨rfl, hp⟩ := hp_2
  refine sj_iret C hR rfl rfl dL_lay_5 ?_
  exact ⟨rfl, hp⟩
set_option maxRecDepth 100000 in
set_option maxHeartbeats 100000 in
theorem ct_L_lay_1 (l : Launch) {S : sj_St} {x : Nat} (kd_x : sj_kd S x = some 6) (v0 : Int32) {P : sj_St → Prop} (hc : sj_CtX l mX6_lay [.ref x, .int v0] S "java/lang/IllegalArgumentException" P) : sj_CtW l mL_lay [(0, 5, 6, 16), (0, 5, 10, 18)] [.ref x, .int v0] S (fun v T => v = some (.int (-102)) ∧ P T) := by
  refine sj_startW ([some (.ref x), some (.int v0), none]) (by decide +kernel) rfl rfl (fun X hX C hR hH => ?_)
  subst hX
  refine sj_aload_n C 1 rfl dL_lay_0 rfl rfl ?_
  refine sj_iload_n C 2 rfl dL_lay_1 rfl rfl ?_
  refine sj_callX C hH ((tableOf [(0, 5, 6, 16), (0, 5, 10, 18)]).take 0) ((tableOf [(0, 5, 6, 16), (0, 5, 10, 18)])[0]'(by decide)) ((tableOf [(0, 5, 6, 16), (0, 5, 10, 18)]).drop 1) rfl dL_lay_2 cv_L_10 rfl hc rfl rfl rfl ⟨_, _, kd_x, rfl, rfl, by decide⟩ (fun U h3 z hz => by cases hz) rfl (by decide) (wr_6 _ (List.mem_of_getElem? (i := 15) (by decide +kernel))) sj_cs_16 (fun q9 S9 hp => ?_)
  refine sj_astore_n_2 C 7 rfl dL_lay_6 rfl rfl ?_
  refine sj_bipush C (-102) 9 rfl dL_lay_7 (by decide) ?_
  refine sj_iret C hR rfl rfl dL_lay_9 ?_
  exact ⟨rfl, hp⟩
set_option maxRecDepth 100000 in
set_option maxHeartbeats 100000 in
theorem ct_L_lay_2 (l : Launch) {S : sj_St} {x : Nat} (kd_x : sj_kd S x = some 6) (v0 : Int32) {P : sj_St → Prop} (hc : sj_CtX l mX6_lay [.ref x, .int v0] S "java/lang/IllegalStateException" P) : sj_CtW l mL_lay [(0, 5, 6, 16), (0, 5, 10, 18)] [.ref x, .int v0] S (fun v T => v = some (.int (-103)) ∧ P T) := by
  refine sj_startW ([some (.ref x), some (.int v0), none]) (by decide +kernel) rfl rfl (fun X hX C hR hH => ?_)
  subst hX
  refine sj_aload_n C 1 rfl dL_lay_0 rfl rfl ?_
  refine sj_iload_n C 2 rfl dL_lay_1 rfl rfl ?_
  refine sj_callX C hH ((tableOf [(0, 5, 6, 16), (0, 5, 10, 18)]).take 1) ((tableOf [(0, 5, 6, 16), (0, 5, 10, 18)])[1]'(by decide)) ((tableOf [(0, 5, 6, 16), (0, 5, 10, 18)]).drop 2) rfl dL_lay_2 cv_L_10 rfl hc rfl rfl rfl ⟨_, _, kd_x, rfl, rfl, by decide⟩ (fun U h3 z hz => Or.inr (by rw [List.mem_singleton.mp (show z ∈ [(tableOf [(0, 5, 6, 16), (0, 5, 10, 18)])[0]'(by decide)] from hz)]; exact ⟨by decide, _, wr_6 _ (List.mem_of_getElem? (i := 15) (by decide +kernel)), h3.1⟩)) rfl (by decide) (wr_6 _ (List.mem_of_getElem? (i := 16) (by decide +kernel))) sj_cs_18 (fun q9 S9 hp => ?_)
  refine sj_astore_n_2 C 11 rfl dL_lay_10 rfl rfl ?_
  refine sj_bipush C (-103) 13 rfl dL_lay_11 (by decide) ?_
  refine sj_iret C hR rfl rfl dL_lay_13 ?_
  exact ⟨rfl, hp⟩
theorem cw_L_138 : sj_Vw RL 138 mL_lay [(0, 5, 6, 16), (0, 5, 10, 18)] 2 := ⟨wr_13 _ (List.mem_of_getElem? (i := 23) (by decide +kernel)), wr_14 _ (List.mem_of_getElem? (i := 0) (by decide +kernel)), wr_5 _ (List.mem_of_getElem? (i := 15) (by decide +kernel)), wr_14 _ (List.mem_of_getElem? (i := 1) (by decide +kernel)), ⟨by decide +kernel, by decide +kernel⟩, by decide +kernel⟩
set_option maxRecDepth 100000 in
set_option maxHeartbeats 100000 in
theorem ct_L_drop_r (l : Launch) {S : sj_St} {x : Nat} (kd_x : sj_kd S x = some 6) (v0 : Int32) {r : Int32} {P : sj_St → Prop} (hc : sj_Ctr l mX6_drop [.ref x, .int v0] S (fun v T => v = some (.int r) ∧ P T)) : sj_CtW l mL_drop [(0, 5, 6, 23)] [.ref x, .int v0] S (fun v T => v = some (.int r) ∧ P T) := by
  refine sj_startW ([some (.ref x), some (.int v0), none]) (by decide +kernel) rfl rfl (fun X hX C hR hH => ?_)
  subst hX
  refine sj_aload_n C 1 rfl dL_drop_0 rfl rfl ?_
  refine sj_iload_n C 2 rfl dL_drop_1 rfl rfl ?_
  refine sj_callV C 5 rfl dL_drop_2 cv_L_20 rfl (hc) rfl rfl rfl ⟨_, _, kd_x, rfl, rfl, by decide⟩ (fun v_2 S_2 hp_2 => ?_)
  obtain ⟨rfl, hp⟩ := hp_2
  refine sj_iret C hR rfl rfl dL_drop_5 ?_
  exact ⟨rfl, hp⟩
set_option maxRecDepth 100000 in
set_option maxHeartbeats 100000 in
theorem ct_L_drop_1 (l : Launch) {S : sj_St} {x : Nat} (kd_x : sj_kd S x = some 6) (v0 : Int32) {P : sj_St → Prop} (hc : sj_CtX l mX6_drop [.ref x, .int v0] S "java/lang/IndexOutOfBoundsException" P) : sj_CtW l mL_drop [(0, 5, 6, 23)] [.ref x, .int v0] S (fun v T => v = some (.int (-101)) ∧ P T) := by
  refine sj_startW ([some (.ref x), some (.int v0), none]) (by decide +kernel) rfl rfl (fun X hX C hR hH => ?_)
  subst hX
  refine sj_aload_n C 1 rfl dL_drop_0 rfl rfl ?_
  refine sj_iload_n C 2 rfl dL_drop_1 rfl rfl ?_
  refine sj_callX C hH ((tableOf [(0, 5, 6, 23)]).take 0) ((tableOf [(0, 5, 6, 23)])[0]'(by decide)) ((tableOf [(0, 5, 6, 23)]).drop 1) rfl dL_drop_2 cv_L_20 rfl hc rfl rfl rfl ⟨_, _, kd_x, rfl, rfl, by decide⟩ (fun U h3 z hz => by cases hz) rfl (by decide) (wr_12 _ (List.mem_of_getElem? (i := 9) (by decide +kernel))) sj_cs_23 (fun q9 S9 hp => ?_)
  refine sj_astore_n_2 C 7 rfl dL_drop_6 rfl rfl ?_
  refine sj_bipush C (-101) 9 rfl dL_drop_7 (by decide) ?_
  refine sj_iret C hR rfl rfl dL_drop_9 ?_
  exact ⟨rfl, hp⟩
theorem cw_L_150 : sj_Vw RL 150 mL_drop [(0, 5, 6, 23)] 2 := ⟨wr_21 _ (List.mem_of_getElem? (i := 7) (by decide +kernel)), wr_21 _ (List.mem_of_getElem? (i := 8) (by decide +kernel)), wr_5 _ (List.mem_of_getElem? (i := 15) (by decide +kernel)), wr_21 _ (List.mem_of_getElem? (i := 9) (by decide +kernel)), ⟨by decide +kernel, by decide +kernel⟩, by decide +kernel⟩
set_option maxRecDepth 100000 in
set_option maxHeartbeats 100000 in
theorem ct_L_pass_r (l : Launch) {S : sj_St} {x : Nat} (kd_x : sj_kd S x = some 6) (v0 : Int32) {r : Int32} {P : sj_St → Prop} (hc : sj_Ctr l mX6_pass [.ref x, .int v0] S (fun v T => v = some (.int r) ∧ P T)) : sj_CtW l mL_pass [(0, 5, 6, 16)] [.ref x, .int v0] S (fun v T => v = some (.int r) ∧ P T) := by
  refine sj_startW ([some (.ref x), some (.int v0), none]) (by decide +kernel) rfl rfl (fun X hX C hR hH => ?_)
  subst hX
  refine sj_aload_n C 1 rfl dL_pass_0 rfl rfl ?_
  refine sj_iload_n C 2 rfl dL_pass_1 rfl rfl ?_
  refine sj_callV C 5 rfl dL_pass_2 cv_L_25 rfl (hc) rfl rfl rfl ⟨_, _, kd_x, rfl, rfl, by decide⟩ (fun v_2 S_2 hp_2 => ?_)
  obtain ⟨rfl, hp⟩ := hp_2
  refine sj_iret C hR rfl rfl dL_pass_5 ?_
  exact ⟨rfl, hp⟩
set_option maxRecDepth 100000 in
set_option maxHeartbeats 100000 in
theorem ct_L_pass_1 (l : Launch) {S : sj_St} {x : Nat} (kd_x : sj_kd S x = some 6) (v0 : Int32) {P : sj_St → Prop} (hc : sj_CtX l mX6_pass [.ref x, .int v0] S "java/lang/IllegalArgumentException" P) : sj_CtW l mL_pass [(0, 5, 6, 16)] [.ref x, .int v0] S (fun v T => v = some (.int (-102)) ∧ P T) := by
  refine sj_startW ([some (.ref x), some (.int v0), none]) (by decide +kernel) rfl rfl (fun X hX C hR hH => ?_)
  subst hX
  refine sj_aload_n C 1 rfl dL_pass_0 rfl rfl ?_
  refine sj_iload_n C 2 rfl dL_pass_1 rfl rfl ?_
  refine sj_callX C hH ((tableOf [(0, 5, 6, 16)]).take 0) ((tableOf [(0, 5, 6, 16)])[0]'(by decide)) ((tableOf [(0, 5, 6, 16)]).drop 1) rfl dL_pass_2 cv_L_25 rfl hc rfl rfl rfl ⟨_, _, kd_x, rfl, rfl, by decide⟩ (fun U h3 z hz => by cases hz) rfl (by decide) (wr_6 _ (List.mem_of_getElem? (i := 15) (by decide +kernel))) sj_cs_16 (fun q9 S9 hp => ?_)
  refine sj_astore_n_2 C 7 rfl dL_pass_6 rfl rfl ?_
  refine sj_bipush C (-102) 9 rfl dL_pass_7 (by decide) ?_
  refine sj_iret C hR rfl rfl dL_pass_9 ?_
  exact ⟨rfl, hp⟩
theorem cw_L_146 : sj_Vw RL 146 mL_pass [(0, 5, 6, 16)] 2 := ⟨wr_20 _ (List.mem_of_getElem? (i := 11) (by decide +kernel)), wr_20 _ (List.mem_of_getElem? (i := 12) (by decide +kernel)), wr_5 _ (List.mem_of_getElem? (i := 15) (by decide +kernel)), wr_20 _ (List.mem_of_getElem? (i := 13) (by decide +kernel)), ⟨by decide +kernel, by decide +kernel⟩, by decide +kernel⟩
set_option maxRecDepth 100000 in
set_option maxHeartbeats 100000 in
theorem ct_L_set_r (l : Launch) {S : sj_St} {x : Nat} (kd_x : sj_kd S x = some 6) (v0 : Int32) (v1 : Int32) {r : Int32} {P : sj_St → Prop} (hc : sj_Ctr l mX6_set [.ref x, .int v0, .int v1] S (fun v T => v = some (.int r) ∧ P T)) : sj_CtW l mL_set [(0, 6, 7, 23), (0, 6, 11, 16)] [.ref x, .int v0, .int v1] S (fun v T => v = some (.int r) ∧ P T) := by
  refine sj_startW ([some (.ref x), some (.int v0), some (.int v1), none]) (by decide +kernel) rfl rfl (fun X hX C hR hH => ?_)
  subst hX
  refine sj_aload_n C 1 rfl dL_set_0 rfl rfl ?_
  refine sj_iload_n C 2 rfl dL_set_1 rfl rfl ?_
  refine sj_iload_n C 3 rfl dL_set_2 rfl rfl ?_
  refine sj_callV C 6 rfl dL_set_3 cv_L_28 rfl (hc) rfl rfl rfl ⟨_, _, kd_x, rfl, rfl, by decide⟩ (fun v_3 S_3 hp_3 => ?_)
  obtain ⟨rfl, hp⟩ := hp_3
  refine sj_iret C hR rfl rfl dL_set_6 ?_
  exact ⟨rfl, hp⟩
set_option maxRecDepth 100000 in
set_option maxHeartbeats 100000 in
theorem ct_L_set_1 (l : Launch) {S : sj_St} {x : Nat} (kd_x : sj_kd S x = some 6) (v0 : Int32) (v1 : Int32) {P : sj_St → Prop} (hc : sj_CtX l mX6_set [.ref x, .int v0, .int v1] S "java/lang/IndexOutOfBoundsException" P) : sj_CtW l mL_set [(0, 6, 7, 23), (0, 6, 11, 16)] [.ref x, .int v0, .int v1] S (fun v T => v = some (.int (-101)) ∧ P T) := by
  refine sj_startW ([some (.ref x), some (.int v0), some (.int v1), none]) (by decide +kernel) rfl rfl (fun X hX C hR hH => ?_)
  subst hX
  refine sj_aload_n C 1 rfl dL_set_0 rfl rfl ?_
  refine sj_iload_n C 2 rfl dL_set_1 rfl rfl ?_
  refine sj_iload_n C 3 rfl dL_set_2 rfl rfl ?_
  refine sj_callX C hH ((tableOf [(0, 6, 7, 23), (0, 6, 11, 16)]).take 0) ((tableOf [(0, 6, 7, 23), (0, 6, 11, 16)])[0]'(by decide)) ((tableOf [(0, 6, 7, 23), (0, 6, 11, 16)]).drop 1) rfl dL_set_3 cv_L_28 rfl hc rfl rfl rfl ⟨_, _, kd_x, rfl, rfl, by decide⟩ (fun U h3 z hz => by cases hz) rfl (by decide) (wr_12 _ (List.mem_of_getElem? (i := 9) (by decide +kernel))) sj_cs_23 (fun q9 S9 hp => ?_)
  refine sj_astore_n_3 C 8 rfl dL_set_7 rfl rfl ?_
  refine sj_bipush C (-101) 10 rfl dL_set_8 (by decide) ?_
  refine sj_iret C hR rfl rfl dL_set_10 ?_
  exact ⟨rfl, hp⟩
set_option maxRecDepth 100000 in
set_option maxHeartbeats 100000 in
theorem ct_L_set_2 (l : Launch) {S : sj_St} {x : Nat} (kd_x : sj_kd S x = some 6) (v0 : Int32) (v1 : Int32) {P : sj_St → Prop} (hc : sj_CtX l mX6_set [.ref x, .int v0, .int v1] S "java/lang/IllegalArgumentException" P) : sj_CtW l mL_set [(0, 6, 7, 23), (0, 6, 11, 16)] [.ref x, .int v0, .int v1] S (fun v T => v = some (.int (-102)) ∧ P T) := by
  refine sj_startW ([some (.ref x), some (.int v0), some (.int v1), none]) (by decide +kernel) rfl rfl (fun X hX C hR hH => ?_)
  subst hX
  refine sj_aload_n C 1 rfl dL_set_0 rfl rfl ?_
  refine sj_iload_n C 2 rfl dL_set_1 rfl rfl ?_
  refine sj_iload_n C 3 rfl dL_set_2 rfl rfl ?_
  refine sj_callX C hH ((tableOf [(0, 6, 7, 23), (0, 6, 11, 16)]).take 1) ((tableOf [(0, 6, 7, 23), (0, 6, 11, 16)])[1]'(by decide)) ((tableOf [(0, 6, 7, 23), (0, 6, 11, 16)]).drop 2) rfl dL_set_3 cv_L_28 rfl hc rfl rfl rfl ⟨_, _, kd_x, rfl, rfl, by decide⟩ (fun U h3 z hz => Or.inr (by rw [List.mem_singleton.mp (show z ∈ [(tableOf [(0, 6, 7, 23), (0, 6, 11, 16)])[0]'(by decide)] from hz)]; exact ⟨by decide, _, wr_12 _ (List.mem_of_getElem? (i := 9) (by decide +kernel)), h3.2.1⟩)) rfl (by decide) (wr_6 _ (List.mem_of_getElem? (i := 15) (by decide +kernel))) sj_cs_16 (fun q9 S9 hp => ?_)
  refine sj_astore_n_3 C 12 rfl dL_set_11 rfl rfl ?_
  refine sj_bipush C (-102) 14 rfl dL_set_12 (by decide) ?_
  refine sj_iret C hR rfl rfl dL_set_14 ?_
  exact ⟨rfl, hp⟩
theorem cw_L_148 : sj_Vw RL 148 mL_set [(0, 6, 7, 23), (0, 6, 11, 16)] 3 := ⟨wr_20 _ (List.mem_of_getElem? (i := 22) (by decide +kernel)), wr_20 _ (List.mem_of_getElem? (i := 23) (by decide +kernel)), wr_5 _ (List.mem_of_getElem? (i := 15) (by decide +kernel)), wr_21 _ (List.mem_of_getElem? (i := 0) (by decide +kernel)), ⟨by decide +kernel, by decide +kernel⟩, by decide +kernel⟩
set_option maxRecDepth 100000 in
set_option maxHeartbeats 100000 in
theorem ct_L_swear_r (l : Launch) {S : sj_St} {x : Nat} (kd_x : sj_kd S x = some 6) (v0 : Int32) (v1 : Int32) (v2 : Int32) {r : Int32} {P : sj_St → Prop} (hc : sj_Ctr l mX6_swear [.ref x, .int v0, .int v1, .int v2] S (fun v T => v = some (.int r) ∧ P T)) : sj_CtW l mL_swear [(0, 7, 8, 23), (0, 7, 13, 18)] [.ref x, .int v0, .int v1, .int v2] S (fun v T => v = some (.int r) ∧ P T) := by
  refine sj_startW ([some (.ref x), some (.int v0), some (.int v1), some (.int v2), none]) (by decide +kernel) rfl rfl (fun X hX C hR hH => ?_)
  subst hX
  refine sj_aload_n C 1 rfl dL_swear_0 rfl rfl ?_
  refine sj_iload_n C 2 rfl dL_swear_1 rfl rfl ?_
  refine sj_iload_n C 3 rfl dL_swear_2 rfl rfl ?_
  refine sj_iload_n C 4 rfl dL_swear_3 rfl rfl ?_
  refine sj_callV C 7 rfl dL_swear_4 cv_L_32 rfl (hc) rfl rfl rfl ⟨_, _, kd_x, rfl, rfl, by decide⟩ (fun v_4 S_4 hp_4 => ?_)
  obtain ⟨rfl, hp⟩ := hp_4
  refine sj_iret C hR rfl rfl dL_swear_7 ?_
  exact ⟨rfl, hp⟩
set_option maxRecDepth 100000 in
set_option maxHeartbeats 100000 in
theorem ct_L_swear_1 (l : Launch) {S : sj_St} {x : Nat} (kd_x : sj_kd S x = some 6) (v0 : Int32) (v1 : Int32) (v2 : Int32) {P : sj_St → Prop} (hc : sj_CtX l mX6_swear [.ref x, .int v0, .int v1, .int v2] S "java/lang/IndexOutOfBoundsException" P) : sj_CtW l mL_swear [(0, 7, 8, 23), (0, 7, 13, 18)] [.ref x, .int v0, .int v1, .int v2] S (fun v T => v = some (.int (-101)) ∧ P T) := by
  refine sj_startW ([some (.ref x), some (.int v0), some (.int v1), some (.int v2), none]) (by decide +kernel) rfl rfl (fun X hX C hR hH => ?_)
  subst hX
  refine sj_aload_n C 1 rfl dL_swear_0 rfl rfl ?_
  refine sj_iload_n C 2 rfl dL_swear_1 rfl rfl ?_
  refine sj_iload_n C 3 rfl dL_swear_2 rfl rfl ?_
  refine sj_iload_n C 4 rfl dL_swear_3 rfl rfl ?_
  refine sj_callX C hH ((tableOf [(0, 7, 8, 23), (0, 7, 13, 18)]).take 0) ((tableOf [(0, 7, 8, 23), (0, 7, 13, 18)])[0]'(by decide)) ((tableOf [(0, 7, 8, 23), (0, 7, 13, 18)]).drop 1) rfl dL_swear_4 cv_L_32 rfl hc rfl rfl rfl ⟨_, _, kd_x, rfl, rfl, by decide⟩ (fun U h3 z hz => by cases hz) rfl (by decide) (wr_12 _ (List.mem_of_getElem? (i := 9) (by decide +kernel))) sj_cs_23 (fun q9 S9 hp => ?_)
  refine sj_astore_4 C 10 rfl dL_swear_8 rfl rfl ?_
  refine sj_bipush C (-101) 12 rfl dL_swear_10 (by decide) ?_
  refine sj_iret C hR rfl rfl dL_swear_12 ?_
  exact ⟨rfl, hp⟩
set_option maxRecDepth 100000 in
set_option maxHeartbeats 100000 in
theorem ct_L_swear_2 (l : Launch) {S : sj_St} {x : Nat} (kd_x : sj_kd S x = some 6) (v0 : Int32) (v1 : Int32) (v2 : Int32) {P : sj_St → Prop} (hc : sj_CtX l mX6_swear [.ref x, .int v0, .int v1, .int v2] S "java/lang/IllegalStateException" P) : sj_CtW l mL_swear [(0, 7, 8, 23), (0, 7, 13, 18)] [.ref x, .int v0, .int v1, .int v2] S (fun v T => v = some (.int (-103)) ∧ P T) := by
  refine sj_startW ([some (.ref x), some (.int v0), some (.int v1), some (.int v2), none]) (by decide +kernel) rfl rfl (fun X hX C hR hH => ?_)
  subst hX
  refine sj_aload_n C 1 rfl dL_swear_0 rfl rfl ?_
  refine sj_iload_n C 2 rfl dL_swear_1 rfl rfl ?_
  refine sj_iload_n C 3 rfl dL_swear_2 rfl rfl ?_
  refine sj_iload_n C 4 rfl dL_swear_3 rfl rfl ?_
  refine sj_callX C hH ((tableOf [(0, 7, 8, 23), (0, 7, 13, 18)]).take 1) ((tableOf [(0, 7, 8, 23), (0, 7, 13, 18)])[1]'(by decide)) ((tableOf [(0, 7, 8, 23), (0, 7, 13, 18)]).drop 2) rfl dL_swear_4 cv_L_32 rfl hc rfl rfl rfl ⟨_, _, kd_x, rfl, rfl, by decide⟩ (fun U h3 z hz => Or.inr (by rw [List.mem_singleton.mp (show z ∈ [(tableOf [(0, 7, 8, 23), (0, 7, 13, 18)])[0]'(by decide)] from hz)]; exact ⟨by decide, _, wr_12 _ (List.mem_of_getElem? (i := 9) (by decide +kernel)), h3.2.2⟩)) rfl (by decide) (wr_6 _ (List.mem_of_getElem? (i := 16) (by decide +kernel))) sj_cs_18 (fun q9 S9 hp => ?_)
  refine sj_astore_4 C 15 rfl dL_swear_13 rfl rfl ?_
  refine sj_bipush C (-103) 17 rfl dL_swear_15 (by decide) ?_
  refine sj_iret C hR rfl rfl dL_swear_17 ?_
  exact ⟨rfl, hp⟩
theorem cw_L_140 : sj_Vw RL 140 mL_swear [(0, 7, 8, 23), (0, 7, 13, 18)] 4 := ⟨wr_18 _ (List.mem_of_getElem? (i := 6) (by decide +kernel)), wr_18 _ (List.mem_of_getElem? (i := 7) (by decide +kernel)), wr_5 _ (List.mem_of_getElem? (i := 15) (by decide +kernel)), wr_18 _ (List.mem_of_getElem? (i := 8) (by decide +kernel)), ⟨by decide +kernel, by decide +kernel⟩, by decide +kernel⟩
set_option maxRecDepth 100000 in
set_option maxHeartbeats 100000 in
theorem ct_L_recant_r (l : Launch) {S : sj_St} {x : Nat} (kd_x : sj_kd S x = some 6) (v0 : Int32) (v1 : Int32) {r : Int32} {P : sj_St → Prop} (hc : sj_Ctr l mX6_recant [.ref x, .int v0, .int v1] S (fun v T => v = some (.int r) ∧ P T)) : sj_CtW l mL_recant [(0, 6, 7, 23)] [.ref x, .int v0, .int v1] S (fun v T => v = some (.int r) ∧ P T) := by
  refine sj_startW ([some (.ref x), some (.int v0), some (.int v1), none]) (by decide +kernel) rfl rfl (fun X hX C hR hH => ?_)
  subst hX
  refine sj_aload_n C 1 rfl dL_recant_0 rfl rfl ?_
  refine sj_iload_n C 2 rfl dL_recant_1 rfl rfl ?_
  refine sj_iload_n C 3 rfl dL_recant_2 rfl rfl ?_
  refine sj_callV C 6 rfl dL_recant_3 cv_L_36 rfl (hc) rfl rfl rfl ⟨_, _, kd_x, rfl, rfl, by decide⟩ (fun v_3 S_3 hp_3 => ?_)
  obtain ⟨rfl, hp⟩ := hp_3
  refine sj_iret C hR rfl rfl dL_recant_6 ?_
  exact ⟨rfl, hp⟩
set_option maxRecDepth 100000 in
set_option maxHeartbeats 100000 in
theorem ct_L_recant_1 (l : Launch) {S : sj_St} {x : Nat} (kd_x : sj_kd S x = some 6) (v0 : Int32) (v1 : Int32) {P : sj_St → Prop} (hc : sj_CtX l mX6_recant [.ref x, .int v0, .int v1] S "java/lang/IndexOutOfBoundsException" P) : sj_CtW l mL_recant [(0, 6, 7, 23)] [.ref x, .int v0, .int v1] S (fun v T => v = some (.int (-101)) ∧ P T) := by
  refine sj_startW ([some (.ref x), some (.int v0), some (.int v1), none]) (by decide +kernel) rfl rfl (fun X hX C hR hH => ?_)
  subst hX
  refine sj_aload_n C 1 rfl dL_recant_0 rfl rfl ?_
  refine sj_iload_n C 2 rfl dL_recant_1 rfl rfl ?_
  refine sj_iload_n C 3 rfl dL_recant_2 rfl rfl ?_
  refine sj_callX C hH ((tableOf [(0, 6, 7, 23)]).take 0) ((tableOf [(0, 6, 7, 23)])[0]'(by decide)) ((tableOf [(0, 6, 7, 23)]).drop 1) rfl dL_recant_3 cv_L_36 rfl hc rfl rfl rfl ⟨_, _, kd_x, rfl, rfl, by decide⟩ (fun U h3 z hz => by cases hz) rfl (by decide) (wr_12 _ (List.mem_of_getElem? (i := 9) (by decide +kernel))) sj_cs_23 (fun q9 S9 hp => ?_)
  refine sj_astore_n_3 C 8 rfl dL_recant_7 rfl rfl ?_
  refine sj_bipush C (-101) 10 rfl dL_recant_8 (by decide) ?_
  refine sj_iret C hR rfl rfl dL_recant_10 ?_
  exact ⟨rfl, hp⟩
theorem cw_L_143 : sj_Vw RL 143 mL_recant [(0, 6, 7, 23)] 3 := ⟨wr_19 _ (List.mem_of_getElem? (i := 15) (by decide +kernel)), wr_19 _ (List.mem_of_getElem? (i := 16) (by decide +kernel)), wr_5 _ (List.mem_of_getElem? (i := 15) (by decide +kernel)), wr_19 _ (List.mem_of_getElem? (i := 17) (by decide +kernel)), ⟨by decide +kernel, by decide +kernel⟩, by decide +kernel⟩
set_option maxRecDepth 100000 in
set_option maxHeartbeats 100000 in
theorem ct_L_append_r (l : Launch) {S : sj_St} {x : Nat} (kd_x : sj_kd S x = some 6) (v0 : Int32) {r : Int32} {P : sj_St → Prop} (hc : sj_Ctr l mX6_append [.ref x, .int v0] S (fun v T => v = some (.int r) ∧ P T)) : sj_CtW l mL_append [(0, 5, 6, 16), (0, 5, 10, 18)] [.ref x, .int v0] S (fun v T => v = some (.int r) ∧ P T) := by
  refine sj_startW ([some (.ref x), some (.int v0), none]) (by decide +kernel) rfl rfl (fun X hX C hR hH => ?_)
  subst hX
  refine sj_aload_n C 1 rfl dL_append_0 rfl rfl ?_
  refine sj_iload_n C 2 rfl dL_append_1 rfl rfl ?_
  refine sj_callV C 5 rfl dL_append_2 cv_L_39 rfl (hc) rfl rfl rfl ⟨_, _, kd_x, rfl, rfl, by decide⟩ (fun v_2 S_2 hp_2 => ?_)
  obtain ⟨rfl, hp⟩ := hp_2
  refine sj_iret C hR rfl rfl dL_append_5 ?_
  exact ⟨rfl, hp⟩
set_option maxRecDepth 100000 in
set_option maxHeartbeats 100000 in
theorem ct_L_append_1 (l : Launch) {S : sj_St} {x : Nat} (kd_x : sj_kd S x = some 6) (v0 : Int32) {P : sj_St → Prop} (hc : sj_CtX l mX6_append [.ref x, .int v0] S "java/lang/IllegalArgumentException" P) : sj_CtW l mL_append [(0, 5, 6, 16), (0, 5, 10, 18)] [.ref x, .int v0] S (fun v T => v = some (.int (-102)) ∧ P T) := by
  refine sj_startW ([some (.ref x), some (.int v0), none]) (by decide +kernel) rfl rfl (fun X hX C hR hH => ?_)
  subst hX
  refine sj_aload_n C 1 rfl dL_append_0 rfl rfl ?_
  refine sj_iload_n C 2 rfl dL_append_1 rfl rfl ?_
  refine sj_callX C hH ((tableOf [(0, 5, 6, 16), (0, 5, 10, 18)]).take 0) ((tableOf [(0, 5, 6, 16), (0, 5, 10, 18)])[0]'(by decide)) ((tableOf [(0, 5, 6, 16), (0, 5, 10, 18)]).drop 1) rfl dL_append_2 cv_L_39 rfl hc rfl rfl rfl ⟨_, _, kd_x, rfl, rfl, by decide⟩ (fun U h3 z hz => by cases hz) rfl (by decide) (wr_6 _ (List.mem_of_getElem? (i := 15) (by decide +kernel))) sj_cs_16 (fun q9 S9 hp => ?_)
  refine sj_astore_n_2 C 7 rfl dL_append_6 rfl rfl ?_
  refine sj_bipush C (-102) 9 rfl dL_append_7 (by decide) ?_
  refine sj_iret C hR rfl rfl dL_append_9 ?_
  exact ⟨rfl, hp⟩
set_option maxRecDepth 100000 in
set_option maxHeartbeats 100000 in
theorem ct_L_append_2 (l : Launch) {S : sj_St} {x : Nat} (kd_x : sj_kd S x = some 6) (v0 : Int32) {P : sj_St → Prop} (hc : sj_CtX l mX6_append [.ref x, .int v0] S "java/lang/IllegalStateException" P) : sj_CtW l mL_append [(0, 5, 6, 16), (0, 5, 10, 18)] [.ref x, .int v0] S (fun v T => v = some (.int (-103)) ∧ P T) := by
  refine sj_startW ([some (.ref x), some (.int v0), none]) (by decide +kernel) rfl rfl (fun X hX C hR hH => ?_)
  subst hX
  refine sj_aload_n C 1 rfl dL_append_0 rfl rfl ?_
  refine sj_iload_n C 2 rfl dL_append_1 rfl rfl ?_
  refine sj_callX C hH ((tableOf [(0, 5, 6, 16), (0, 5, 10, 18)]).take 1) ((tableOf [(0, 5, 6, 16), (0, 5, 10, 18)])[1]'(by decide)) ((tableOf [(0, 5, 6, 16), (0, 5, 10, 18)]).drop 2) rfl dL_append_2 cv_L_39 rfl hc rfl rfl rfl ⟨_, _, kd_x, rfl, rfl, by decide⟩ (fun U h3 z hz => Or.inr (by rw [List.mem_singleton.mp (show z ∈ [(tableOf [(0, 5, 6, 16), (0, 5, 10, 18)])[0]'(by decide)] from hz)]; exact ⟨by decide, _, wr_6 _ (List.mem_of_getElem? (i := 15) (by decide +kernel)), h3.1⟩)) rfl (by decide) (wr_6 _ (List.mem_of_getElem? (i := 16) (by decide +kernel))) sj_cs_18 (fun q9 S9 hp => ?_)
  refine sj_astore_n_2 C 11 rfl dL_append_10 rfl rfl ?_
  refine sj_bipush C (-103) 13 rfl dL_append_11 (by decide) ?_
  refine sj_iret C hR rfl rfl dL_append_13 ?_
  exact ⟨rfl, hp⟩
theorem cw_L_77 : sj_Vw RL 77 mL_append [(0, 5, 6, 16), (0, 5, 10, 18)] 2 := ⟨wr_6 _ (List.mem_of_getElem? (i := 12) (by decide +kernel)), wr_6 _ (List.mem_of_getElem? (i := 13) (by decide +kernel)), wr_5 _ (List.mem_of_getElem? (i := 15) (by decide +kernel)), wr_6 _ (List.mem_of_getElem? (i := 14) (by decide +kernel)), ⟨by decide +kernel, by decide +kernel⟩, by decide +kernel⟩
set_option maxRecDepth 100000 in
set_option maxHeartbeats 100000 in
theorem ct_L_undo_r (l : Launch) {S : sj_St} {x : Nat} (kd_x : sj_kd S x = some 6) {r : Int32} {P : sj_St → Prop} (hc : sj_Ctr l mX6_undo [.ref x] S (fun v T => v = some (.int r) ∧ P T)) : sj_CtW l mL_undo [(0, 4, 5, 18)] [.ref x] S (fun v T => v = some (.int r) ∧ P T) := by
  refine sj_startW ([some (.ref x), none]) (by decide +kernel) rfl rfl (fun X hX C hR hH => ?_)
  subst hX
  refine sj_aload_n C 1 rfl dL_undo_0 rfl rfl ?_
  refine sj_callV C 4 rfl dL_undo_1 cv_L_42 rfl (hc) rfl rfl rfl ⟨_, _, kd_x, rfl, rfl, by decide⟩ (fun v_1 S_1 hp_1 => ?_)
  obtain ⟨rfl, hp⟩ := hp_1
  refine sj_iret C hR rfl rfl dL_undo_4 ?_
  exact ⟨rfl, hp⟩
set_option maxRecDepth 100000 in
set_option maxHeartbeats 100000 in
theorem ct_L_undo_1 (l : Launch) {S : sj_St} {x : Nat} (kd_x : sj_kd S x = some 6) {P : sj_St → Prop} (hc : sj_CtX l mX6_undo [.ref x] S "java/lang/IllegalStateException" P) : sj_CtW l mL_undo [(0, 4, 5, 18)] [.ref x] S (fun v T => v = some (.int (-103)) ∧ P T) := by
  refine sj_startW ([some (.ref x), none]) (by decide +kernel) rfl rfl (fun X hX C hR hH => ?_)
  subst hX
  refine sj_aload_n C 1 rfl dL_undo_0 rfl rfl ?_
  refine sj_callX C hH ((tableOf [(0, 4, 5, 18)]).take 0) ((tableOf [(0, 4, 5, 18)])[0]'(by decide)) ((tableOf [(0, 4, 5, 18)]).drop 1) rfl dL_undo_1 cv_L_42 rfl hc rfl rfl rfl ⟨_, _, kd_x, rfl, rfl, by decide⟩ (fun U h3 z hz => by cases hz) rfl (by decide) (wr_6 _ (List.mem_of_getElem? (i := 16) (by decide +kernel))) sj_cs_18 (fun q9 S9 hp => ?_)
  refine sj_astore_n_1 C 6 rfl dL_undo_5 rfl rfl ?_
  refine sj_bipush C (-103) 8 rfl dL_undo_6 (by decide) ?_
  refine sj_iret C hR rfl rfl dL_undo_8 ?_
  exact ⟨rfl, hp⟩
theorem cw_L_215 : sj_Vw RL 215 mL_undo [(0, 4, 5, 18)] 1 := ⟨wr_22 _ (List.mem_of_getElem? (i := 2) (by decide +kernel)), wr_22 _ (List.mem_of_getElem? (i := 3) (by decide +kernel)), wr_5 _ (List.mem_of_getElem? (i := 15) (by decide +kernel)), wr_22 _ (List.mem_of_getElem? (i := 4) (by decide +kernel)), ⟨by decide +kernel, by decide +kernel⟩, by decide +kernel⟩
set_option maxRecDepth 100000 in
set_option maxHeartbeats 100000 in
theorem ct_L_sheet_r (l : Launch) {S : sj_St} {x : Nat} (kd_x : sj_kd S x = some 6) (v0 : Int32) (v1 : Int32) {r : Int32} {P : sj_St → Prop} (hc : sj_Ctr l mX6_sheet [.ref x, .int v0, .int v1] S (fun v T => v = some (.int r) ∧ P T)) : sj_CtW l mL_sheet [(0, 6, 7, 23), (0, 6, 11, 16)] [.ref x, .int v0, .int v1] S (fun v T => v = some (.int r) ∧ P T) := by
  refine sj_startW ([some (.ref x), some (.int v0), some (.int v1), none]) (by decide +kernel) rfl rfl (fun X hX C hR hH => ?_)
  subst hX
  refine sj_aload_n C 1 rfl dL_sheet_0 rfl rfl ?_
  refine sj_iload_n C 2 rfl dL_sheet_1 rfl rfl ?_
  refine sj_iload_n C 3 rfl dL_sheet_2 rfl rfl ?_
  refine sj_callV C 6 rfl dL_sheet_3 cv_L_46 rfl (hc) rfl rfl rfl ⟨_, _, kd_x, rfl, rfl, by decide⟩ (fun v_3 S_3 hp_3 => ?_)
  obtain ⟨rfl, hp⟩ := hp_3
  refine sj_iret C hR rfl rfl dL_sheet_6 ?_
  exact ⟨rfl, hp⟩
set_option maxRecDepth 100000 in
set_option maxHeartbeats 100000 in
theorem ct_L_sheet_1 (l : Launch) {S : sj_St} {x : Nat} (kd_x : sj_kd S x = some 6) (v0 : Int32) (v1 : Int32) {P : sj_St → Prop} (hc : sj_CtX l mX6_sheet [.ref x, .int v0, .int v1] S "java/lang/IndexOutOfBoundsException" P) : sj_CtW l mL_sheet [(0, 6, 7, 23), (0, 6, 11, 16)] [.ref x, .int v0, .int v1] S (fun v T => v = some (.int (-101)) ∧ P T) := by
  refine sj_startW ([some (.ref x), some (.int v0), some (.int v1), none]) (by decide +kernel) rfl rfl (fun X hX C hR hH => ?_)
  subst hX
  refine sj_aload_n C 1 rfl dL_sheet_0 rfl rfl ?_
  refine sj_iload_n C 2 rfl dL_sheet_1 rfl rfl ?_
  refine sj_iload_n C 3 rfl dL_sheet_2 rfl rfl ?_
  refine sj_callX C hH ((tableOf [(0, 6, 7, 23), (0, 6, 11, 16)]).take 0) ((tableOf [(0, 6, 7, 23), (0, 6, 11, 16)])[0]'(by decide)) ((tableOf [(0, 6, 7, 23), (0, 6, 11, 16)]).drop 1) rfl dL_sheet_3 cv_L_46 rfl hc rfl rfl rfl ⟨_, _, kd_x, rfl, rfl, by decide⟩ (fun U h3 z hz => by cases hz) rfl (by decide) (wr_12 _ (List.mem_of_getElem? (i := 9) (by decide +kernel))) sj_cs_23 (fun q9 S9 hp => ?_)
  refine sj_astore_n_3 C 8 rfl dL_sheet_7 rfl rfl ?_
  refine sj_bipush C (-101) 10 rfl dL_sheet_8 (by decide) ?_
  refine sj_iret C hR rfl rfl dL_sheet_10 ?_
  exact ⟨rfl, hp⟩
set_option maxRecDepth 100000 in
set_option maxHeartbeats 100000 in
theorem ct_L_sheet_2 (l : Launch) {S : sj_St} {x : Nat} (kd_x : sj_kd S x = some 6) (v0 : Int32) (v1 : Int32) {P : sj_St → Prop} (hc : sj_CtX l mX6_sheet [.ref x, .int v0, .int v1] S "java/lang/IllegalArgumentException" P) : sj_CtW l mL_sheet [(0, 6, 7, 23), (0, 6, 11, 16)] [.ref x, .int v0, .int v1] S (fun v T => v = some (.int (-102)) ∧ P T) := by
  refine sj_startW ([some (.ref x), some (.int v0), some (.int v1), none]) (by decide +kernel) rfl rfl (fun X hX C hR hH => ?_)
  subst hX
  refine sj_aload_n C 1 rfl dL_sheet_0 rfl rfl ?_
  refine sj_iload_n C 2 rfl dL_sheet_1 rfl rfl ?_
  refine sj_iload_n C 3 rfl dL_sheet_2 rfl rfl ?_
  refine sj_callX C hH ((tableOf [(0, 6, 7, 23), (0, 6, 11, 16)]).take 1) ((tableOf [(0, 6, 7, 23), (0, 6, 11, 16)])[1]'(by decide)) ((tableOf [(0, 6, 7, 23), (0, 6, 11, 16)]).drop 2) rfl dL_sheet_3 cv_L_46 rfl hc rfl rfl rfl ⟨_, _, kd_x, rfl, rfl, by decide⟩ (fun U h3 z hz => Or.inr (by rw [List.mem_singleton.mp (show z ∈ [(tableOf [(0, 6, 7, 23), (0, 6, 11, 16)])[0]'(by decide)] from hz)]; exact ⟨by decide, _, wr_12 _ (List.mem_of_getElem? (i := 9) (by decide +kernel)), h3.2.1⟩)) rfl (by decide) (wr_6 _ (List.mem_of_getElem? (i := 15) (by decide +kernel))) sj_cs_16 (fun q9 S9 hp => ?_)
  refine sj_astore_n_3 C 12 rfl dL_sheet_11 rfl rfl ?_
  refine sj_bipush C (-102) 14 rfl dL_sheet_12 (by decide) ?_
  refine sj_iret C hR rfl rfl dL_sheet_14 ?_
  exact ⟨rfl, hp⟩
theorem cw_L_164 : sj_Vw RL 164 mL_sheet [(0, 6, 7, 23), (0, 6, 11, 16)] 3 := ⟨wr_12 _ (List.mem_of_getElem? (i := 6) (by decide +kernel)), wr_12 _ (List.mem_of_getElem? (i := 7) (by decide +kernel)), wr_5 _ (List.mem_of_getElem? (i := 15) (by decide +kernel)), wr_12 _ (List.mem_of_getElem? (i := 8) (by decide +kernel)), ⟨by decide +kernel, by decide +kernel⟩, by decide +kernel⟩
set_option maxRecDepth 100000 in
set_option maxHeartbeats 100000 in
theorem ct_L_stroke_r (l : Launch) {S : sj_St} {x : Nat} (kd_x : sj_kd S x = some 6) (v0 : Int32) (v1 : Int32) (v2 : Int32) {r : Int32} {P : sj_St → Prop} (hc : sj_Ctr l mX6_stroke [.ref x, .int v0, .int v1, .int v2] S (fun v T => v = some (.int r) ∧ P T)) : sj_CtW l mL_stroke [(0, 7, 8, 23), (0, 7, 13, 16)] [.ref x, .int v0, .int v1, .int v2] S (fun v T => v = some (.int r) ∧ P T) := by
  refine sj_startW ([some (.ref x), some (.int v0), some (.int v1), some (.int v2), none]) (by decide +kernel) rfl rfl (fun X hX C hR hH => ?_)
  subst hX
  refine sj_aload_n C 1 rfl dL_stroke_0 rfl rfl ?_
  refine sj_iload_n C 2 rfl dL_stroke_1 rfl rfl ?_
  refine sj_iload_n C 3 rfl dL_stroke_2 rfl rfl ?_
  refine sj_iload_n C 4 rfl dL_stroke_3 rfl rfl ?_
  refine sj_callV C 7 rfl dL_stroke_4 cv_L_49 rfl (hc) rfl rfl rfl ⟨_, _, kd_x, rfl, rfl, by decide⟩ (fun v_4 S_4 hp_4 => ?_)
  obtain ⟨rfl, hp⟩ := hp_4
  refine sj_iret C hR rfl rfl dL_stroke_7 ?_
  exact ⟨rfl, hp⟩
set_option maxRecDepth 100000 in
set_option maxHeartbeats 100000 in
theorem ct_L_stroke_1 (l : Launch) {S : sj_St} {x : Nat} (kd_x : sj_kd S x = some 6) (v0 : Int32) (v1 : Int32) (v2 : Int32) {P : sj_St → Prop} (hc : sj_CtX l mX6_stroke [.ref x, .int v0, .int v1, .int v2] S "java/lang/IndexOutOfBoundsException" P) : sj_CtW l mL_stroke [(0, 7, 8, 23), (0, 7, 13, 16)] [.ref x, .int v0, .int v1, .int v2] S (fun v T => v = some (.int (-101)) ∧ P T) := by
  refine sj_startW ([some (.ref x), some (.int v0), some (.int v1), some (.int v2), none]) (by decide +kernel) rfl rfl (fun X hX C hR hH => ?_)
  subst hX
  refine sj_aload_n C 1 rfl dL_stroke_0 rfl rfl ?_
  refine sj_iload_n C 2 rfl dL_stroke_1 rfl rfl ?_
  refine sj_iload_n C 3 rfl dL_stroke_2 rfl rfl ?_
  refine sj_iload_n C 4 rfl dL_stroke_3 rfl rfl ?_
  refine sj_callX C hH ((tableOf [(0, 7, 8, 23), (0, 7, 13, 16)]).take 0) ((tableOf [(0, 7, 8, 23), (0, 7, 13, 16)])[0]'(by decide)) ((tableOf [(0, 7, 8, 23), (0, 7, 13, 16)]).drop 1) rfl dL_stroke_4 cv_L_49 rfl hc rfl rfl rfl ⟨_, _, kd_x, rfl, rfl, by decide⟩ (fun U h3 z hz => by cases hz) rfl (by decide) (wr_12 _ (List.mem_of_getElem? (i := 9) (by decide +kernel))) sj_cs_23 (fun q9 S9 hp => ?_)
  refine sj_astore_4 C 10 rfl dL_stroke_8 rfl rfl ?_
  refine sj_bipush C (-101) 12 rfl dL_stroke_10 (by decide) ?_
  refine sj_iret C hR rfl rfl dL_stroke_12 ?_
  exact ⟨rfl, hp⟩
set_option maxRecDepth 100000 in
set_option maxHeartbeats 100000 in
theorem ct_L_stroke_2 (l : Launch) {S : sj_St} {x : Nat} (kd_x : sj_kd S x = some 6) (v0 : Int32) (v1 : Int32) (v2 : Int32) {P : sj_St → Prop} (hc : sj_CtX l mX6_stroke [.ref x, .int v0, .int v1, .int v2] S "java/lang/IllegalArgumentException" P) : sj_CtW l mL_stroke [(0, 7, 8, 23), (0, 7, 13, 16)] [.ref x, .int v0, .int v1, .int v2] S (fun v T => v = some (.int (-102)) ∧ P T) := by
  refine sj_startW ([some (.ref x), some (.int v0), some (.int v1), some (.int v2), none]) (by decide +kernel) rfl rfl (fun X hX C hR hH => ?_)
  subst hX
  refine sj_aload_n C 1 rfl dL_stroke_0 rfl rfl ?_
  refine sj_iload_n C 2 rfl dL_stroke_1 rfl rfl ?_
  refine sj_iload_n C 3 rfl dL_stroke_2 rfl rfl ?_
  refine sj_iload_n C 4 rfl dL_stroke_3 rfl rfl ?_
  refine sj_callX C hH ((tableOf [(0, 7, 8, 23), (0, 7, 13, 16)]).take 1) ((tableOf [(0, 7, 8, 23), (0, 7, 13, 16)])[1]'(by decide)) ((tableOf [(0, 7, 8, 23), (0, 7, 13, 16)]).drop 2) rfl dL_stroke_4 cv_L_49 rfl hc rfl rfl rfl ⟨_, _, kd_x, rfl, rfl, by decide⟩ (fun U h3 z hz => Or.inr (by rw [List.mem_singleton.mp (show z ∈ [(tableOf [(0, 7, 8, 23), (0, 7, 13, 16)])[0]'(by decide)] from hz)]; exact ⟨by decide, _, wr_12 _ (List.mem_of_getElem? (i := 9) (by decide +kernel)), h3.2.1⟩)) rfl (by decide) (wr_6 _ (List.mem_of_getElem? (i := 15) (by decide +kernel))) sj_cs_16 (fun q9 S9 hp => ?_)
  refine sj_astore_4 C 15 rfl dL_stroke_13 rfl rfl ?_
  refine sj_bipush C (-102) 17 rfl dL_stroke_15 (by decide) ?_
  refine sj_iret C hR rfl rfl dL_stroke_17 ?_
  exact ⟨rfl, hp⟩
theorem cw_L_166 : sj_Vw RL 166 mL_stroke [(0, 7, 8, 23), (0, 7, 13, 16)] 4 := ⟨wr_25 _ (List.mem_of_getElem? (i := 6) (by decide +kernel)), wr_25 _ (List.mem_of_getElem? (i := 7) (by decide +kernel)), wr_5 _ (List.mem_of_getElem? (i := 15) (by decide +kernel)), wr_25 _ (List.mem_of_getElem? (i := 8) (by decide +kernel)), ⟨by decide +kernel, by decide +kernel⟩, by decide +kernel⟩
set_option maxRecDepth 100000 in
set_option maxHeartbeats 100000 in
theorem ct_L_mark_r (l : Launch) {S : sj_St} {x : Nat} (kd_x : sj_kd S x = some 6) (v0 : Int32) (v1 : Int32) {r : Int32} {P : sj_St → Prop} (hc : sj_Ctr l mX6_mark [.ref x, .int v0, .int v1] S (fun v T => v = some (.int r) ∧ P T)) : sj_CtW l mL_mark [(0, 6, 7, 23), (0, 6, 11, 16)] [.ref x, .int v0, .int v1] S (fun v T => v = some (.int r) ∧ P T) := by
  refine sj_startW ([some (.ref x), some (.int v0), some (.int v1), none]) (by decide +kernel) rfl rfl (fun X hX C hR hH => ?_)
  subst hX
  refine sj_aload_n C 1 rfl dL_mark_0 rfl rfl ?_
  refine sj_iload_n C 2 rfl dL_mark_1 rfl rfl ?_
  refine sj_iload_n C 3 rfl dL_mark_2 rfl rfl ?_
  refine sj_callV C 6 rfl dL_mark_3 cv_L_53 rfl (hc) rfl rfl rfl ⟨_, _, kd_x, rfl, rfl, by decide⟩ (fun v_3 S_3 hp_3 => ?_)
  obtain ⟨rfl, hp⟩ := hp_3
  refine sj_iret C hR rfl rfl dL_mark_6 ?_
  exact ⟨rfl, hp⟩
set_option maxRecDepth 100000 in
set_option maxHeartbeats 100000 in
theorem ct_L_mark_1 (l : Launch) {S : sj_St} {x : Nat} (kd_x : sj_kd S x = some 6) (v0 : Int32) (v1 : Int32) {P : sj_St → Prop} (hc : sj_CtX l mX6_mark [.ref x, .int v0, .int v1] S "java/lang/IndexOutOfBoundsException" P) : sj_CtW l mL_mark [(0, 6, 7, 23), (0, 6, 11, 16)] [.ref x, .int v0, .int v1] S (fun v T => v = some (.int (-101)) ∧ P T) := by
  refine sj_startW ([some (.ref x), some (.int v0), some (.int v1), none]) (by decide +kernel) rfl rfl (fun X hX C hR hH => ?_)
  subst hX
  refine sj_aload_n C 1 rfl dL_mark_0 rfl rfl ?_
  refine sj_iload_n C 2 rfl dL_mark_1 rfl rfl ?_
  refine sj_iload_n C 3 rfl dL_mark_2 rfl rfl ?_
  refine sj_callX C hH ((tableOf [(0, 6, 7, 23), (0, 6, 11, 16)]).take 0) ((tableOf [(0, 6, 7, 23), (0, 6, 11, 16)])[0]'(by decide)) ((tableOf [(0, 6, 7, 23), (0, 6, 11, 16)]).drop 1) rfl dL_mark_3 cv_L_53 rfl hc rfl rfl rfl ⟨_, _, kd_x, rfl, rfl, by decide⟩ (fun U h3 z hz => by cases hz) rfl (by decide) (wr_12 _ (List.mem_of_getElem? (i := 9) (by decide +kernel))) sj_cs_23 (fun q9 S9 hp => ?_)
  refine sj_astore_n_3 C 8 rfl dL_mark_7 rfl rfl ?_
  refine sj_bipush C (-101) 10 rfl dL_mark_8 (by decide) ?_
  refine sj_iret C hR rfl rfl dL_mark_10 ?_
  exact ⟨rfl, hp⟩
set_option maxRecDepth 100000 in
set_option maxHeartbeats 100000 in
theorem ct_L_mark_2 (l : Launch) {S : sj_St} {x : Nat} (kd_x : sj_kd S x = some 6) (v0 : Int32) (v1 : Int32) {P : sj_St → Prop} (hc : sj_CtX l mX6_mark [.ref x, .int v0, .int v1] S "java/lang/IllegalArgumentException" P) : sj_CtW l mL_mark [(0, 6, 7, 23), (0, 6, 11, 16)] [.ref x, .int v0, .int v1] S (fun v T => v = some (.int (-102)) ∧ P T) := by
  refine sj_startW ([some (.ref x), some (.int v0), some (.int v1), none]) (by decide +kernel) rfl rfl (fun X hX C hR hH => ?_)
  subst hX
  refine sj_aload_n C 1 rfl dL_mark_0 rfl rfl ?_
  refine sj_iload_n C 2 rfl dL_mark_1 rfl rfl ?_
  refine sj_iload_n C 3 rfl dL_mark_2 rfl rfl ?_
  refine sj_callX C hH ((tableOf [(0, 6, 7, 23), (0, 6, 11, 16)]).take 1) ((tableOf [(0, 6, 7, 23), (0, 6, 11, 16)])[1]'(by decide)) ((tableOf [(0, 6, 7, 23), (0, 6, 11, 16)]).drop 2) rfl dL_mark_3 cv_L_53 rfl hc rfl rfl rfl ⟨_, _, kd_x, rfl, rfl, by decide⟩ (fun U h3 z hz => Or.inr (by rw [List.mem_singleton.mp (show z ∈ [(tableOf [(0, 6, 7, 23), (0, 6, 11, 16)])[0]'(by decide)] from hz)]; exact ⟨by decide, _, wr_12 _ (List.mem_of_getElem? (i := 9) (by decide +kernel)), h3.2.1⟩)) rfl (by decide) (wr_6 _ (List.mem_of_getElem? (i := 15) (by decide +kernel))) sj_cs_16 (fun q9 S9 hp => ?_)
  refine sj_astore_n_3 C 12 rfl dL_mark_11 rfl rfl ?_
  refine sj_bipush C (-102) 14 rfl dL_mark_12 (by decide) ?_
  refine sj_iret C hR rfl rfl dL_mark_14 ?_
  exact ⟨rfl, hp⟩
theorem cw_L_175 : sj_Vw RL 175 mL_mark [(0, 6, 7, 23), (0, 6, 11, 16)] 3 := ⟨wr_13 _ (List.mem_of_getElem? (i := 8) (by decide +kernel)), wr_13 _ (List.mem_of_getElem? (i := 9) (by decide +kernel)), wr_5 _ (List.mem_of_getElem? (i := 15) (by decide +kernel)), wr_13 _ (List.mem_of_getElem? (i := 10) (by decide +kernel)), ⟨by decide +kernel, by decide +kernel⟩, by decide +kernel⟩
set_option maxRecDepth 100000 in
set_option maxHeartbeats 100000 in
theorem ct_L_compare_r (l : Launch) {S : sj_St} {x : Nat} (kd_x : sj_kd S x = some 6) (v0 : Int32) (v1 : Int32) (v2 : Int32) {r : Int32} {P : sj_St → Prop} (hc : sj_Ctr l mX6_compare [.ref x, .int v0, .int v1, .int v2] S (fun v T => v = some (.int r) ∧ P T)) : sj_CtW l mL_compare [(0, 7, 8, 23), (0, 7, 13, 16)] [.ref x, .int v0, .int v1, .int v2] S (fun v T => v = some (.int r) ∧ P T) := by
  refine sj_startW ([some (.ref x), some (.int v0), some (.int v1), some (.int v2), none]) (by decide +kernel) rfl rfl (fun X hX C hR hH => ?_)
  subst hX
  refine sj_aload_n C 1 rfl dL_compare_0 rfl rfl ?_
  refine sj_iload_n C 2 rfl dL_compare_1 rfl rfl ?_
  refine sj_iload_n C 3 rfl dL_compare_2 rfl rfl ?_
  refine sj_iload_n C 4 rfl dL_compare_3 rfl rfl ?_
  refine sj_callV C 7 rfl dL_compare_4 cv_L_56 rfl (hc) rfl rfl rfl ⟨_, _, kd_x, rfl, rfl, by decide⟩ (fun v_4 S_4 hp_4 => ?_)
  obtain ⟨rfl, hp⟩ := hp_4
  refine sj_iret C hR rfl rfl dL_compare_7 ?_
  exact ⟨rfl, hp⟩
set_option maxRecDepth 100000 in
set_option maxHeartbeats 100000 in
theorem ct_L_compare_1 (l : Launch) {S : sj_St} {x : Nat} (kd_x : sj_kd S x = some 6) (v0 : Int32) (v1 : Int32) (v2 : Int32) {P : sj_St → Prop} (hc : sj_CtX l mX6_compare [.ref x, .int v0, .int v1, .int v2] S "java/lang/IndexOutOfBoundsException" P) : sj_CtW l mL_compare [(0, 7, 8, 23), (0, 7, 13, 16)] [.ref x, .int v0, .int v1, .int v2] S (fun v T => v = some (.int (-101)) ∧ P T) := by
  refine sj_startW ([some (.ref x), some (.int v0), some (.int v1), some (.int v2), none]) (by decide +kernel) rfl rfl (fun X hX C hR hH => ?_)
  subst hX
  refine sj_aload_n C 1 rfl dL_compare_0 rfl rfl ?_
  refine sj_iload_n C 2 rfl dL_compare_1 rfl rfl ?_
  refine sj_iload_n C 3 rfl dL_compare_2 rfl rfl ?_
  refine sj_iload_n C 4 rfl dL_compare_3 rfl rfl ?_
  refine sj_callX C hH ((tableOf [(0, 7, 8, 23), (0, 7, 13, 16)]).take 0) ((tableOf [(0, 7, 8, 23), (0, 7, 13, 16)])[0]'(by decide)) ((tableOf [(0, 7, 8, 23), (0, 7, 13, 16)]).drop 1) rfl dL_compare_4 cv_L_56 rfl hc rfl rfl rfl ⟨_, _, kd_x, rfl, rfl, by decide⟩ (fun U h3 z hz => by cases hz) rfl (by decide) (wr_12 _ (List.mem_of_getElem? (i := 9) (by decide +kernel))) sj_cs_23 (fun q9 S9 hp => ?_)
  refine sj_astore_4 C 10 rfl dL_compare_8 rfl rfl ?_
  refine sj_bipush C (-101) 12 rfl dL_compare_10 (by decide) ?_
  refine sj_iret C hR rfl rfl dL_compare_12 ?_
  exact ⟨rfl, hp⟩
set_option maxRecDepth 100000 in
set_option maxHeartbeats 100000 in
theorem ct_L_compare_2 (l : Launch) {S : sj_St} {x : Nat} (kd_x : sj_kd S x = some 6) (v0 : Int32) (v1 : Int32) (v2 : Int32) {P : sj_St → Prop} (hc : sj_CtX l mX6_compare [.ref x, .int v0, .int v1, .int v2] S "java/lang/IllegalArgumentException" P) : sj_CtW l mL_compare [(0, 7, 8, 23), (0, 7, 13, 16)] [.ref x, .int v0, .int v1, .int v2] S (fun v T => v = some (.int (-102)) ∧ P T) := by
  refine sj_startW ([some (.ref x), some (.int v0), some (.int v1), some (.int v2), none]) (by decide +kernel) rfl rfl (fun X hX C hR hH => ?_)
  subst hX
  refine sj_aload_n C 1 rfl dL_compare_0 rfl rfl ?_
  refine sj_iload_n C 2 rfl dL_compare_1 rfl rfl ?_
  refine sj_iload_n C 3 rfl dL_compare_2 rfl rfl ?_
  refine sj_iload_n C 4 rfl dL_compare_3 rfl rfl ?_
  refine sj_callX C hH ((tableOf [(0, 7, 8, 23), (0, 7, 13, 16)]).take 1) ((tableOf [(0, 7, 8, 23), (0, 7, 13, 16)])[1]'(by decide)) ((tableOf [(0, 7, 8, 23), (0, 7, 13, 16)]).drop 2) rfl dL_compare_4 cv_L_56 rfl hc rfl rfl rfl ⟨_, _, kd_x, rfl, rfl, by decide⟩ (fun U h3 z hz => Or.inr (by rw [List.mem_singleton.mp (show z ∈ [(tableOf [(0, 7, 8, 23), (0, 7, 13, 16)])[0]'(by decide)] from hz)]; exact ⟨by decide, _, wr_12 _ (List.mem_of_getElem? (i := 9) (by decide +kernel)), h3.2.1⟩)) rfl (by decide) (wr_6 _ (List.mem_of_getElem? (i := 15) (by decide +kernel))) sj_cs_16 (fun q9 S9 hp => ?_)
  refine sj_astore_4 C 15 rfl dL_compare_13 rfl rfl ?_
  refine sj_bipush C (-102) 17 rfl dL_compare_15 (by decide) ?_
  refine sj_iret C hR rfl rfl dL_compare_17 ?_
  exact ⟨rfl, hp⟩
theorem cw_L_171 : sj_Vw RL 171 mL_compare [(0, 7, 8, 23), (0, 7, 13, 16)] 4 := ⟨wr_26 _ (List.mem_of_getElem? (i := 4) (by decide +kernel)), wr_26 _ (List.mem_of_getElem? (i := 5) (by decide +kernel)), wr_5 _ (List.mem_of_getElem? (i := 15) (by decide +kernel)), wr_26 _ (List.mem_of_getElem? (i := 6) (by decide +kernel)), ⟨by decide +kernel, by decide +kernel⟩, by decide +kernel⟩
set_option maxRecDepth 100000 in
set_option maxHeartbeats 100000 in
theorem ct_L_oath_r (l : Launch) {S : sj_St} {x : Nat} (kd_x : sj_kd S x = some 6) (v0 : Int32) (v1 : Int32) {r : Int32} {P : sj_St → Prop} (hc : sj_Ctr l mX6_oath [.ref x, .int v0, .int v1] S (fun v T => v = some (.int r) ∧ P T)) : sj_CtW l mL_oath [(0, 6, 7, 16)] [.ref x, .int v0, .int v1] S (fun v T => v = some (.int r) ∧ P T) := by
  refine sj_startW ([some (.ref x), some (.int v0), some (.int v1), none]) (by decide +kernel) rfl rfl (fun X hX C hR hH => ?_)
  subst hX
  refine sj_aload_n C 1 rfl dL_oath_0 rfl rfl ?_
  refine sj_iload_n C 2 rfl dL_oath_1 rfl rfl ?_
  refine sj_iload_n C 3 rfl dL_oath_2 rfl rfl ?_
  refine sj_callV C 6 rfl dL_oath_3 cv_L_59 rfl (hc) rfl rfl rfl ⟨_, _, kd_x, rfl, rfl, by decide⟩ (fun v_3 S_3 hp_3 => ?_)
  obtain ⟨rfl, hp⟩ := hp_3
  refine sj_iret C hR rfl rfl dL_oath_6 ?_
  exact ⟨rfl, hp⟩
set_option maxRecDepth 100000 in
set_option maxHeartbeats 100000 in
theorem ct_L_oath_1 (l : Launch) {S : sj_St} {x : Nat} (kd_x : sj_kd S x = some 6) (v0 : Int32) (v1 : Int32) {P : sj_St → Prop} (hc : sj_CtX l mX6_oath [.ref x, .int v0, .int v1] S "java/lang/IllegalArgumentException" P) : sj_CtW l mL_oath [(0, 6, 7, 16)] [.ref x, .int v0, .int v1] S (fun v T => v = some (.int (-102)) ∧ P T) := by
  refine sj_startW ([some (.ref x), some (.int v0), some (.int v1), none]) (by decide +kernel) rfl rfl (fun X hX C hR hH => ?_)
  subst hX
  refine sj_aload_n C 1 rfl dL_oath_0 rfl rfl ?_
  refine sj_iload_n C 2 rfl dL_oath_1 rfl rfl ?_
  refine sj_iload_n C 3 rfl dL_oath_2 rfl rfl ?_
  refine sj_callX C hH ((tableOf [(0, 6, 7, 16)]).take 0) ((tableOf [(0, 6, 7, 16)])[0]'(by decide)) ((tableOf [(0, 6, 7, 16)]).drop 1) rfl dL_oath_3 cv_L_59 rfl hc rfl rfl rfl ⟨_, _, kd_x, rfl, rfl, by decide⟩ (fun U h3 z hz => by cases hz) rfl (by decide) (wr_6 _ (List.mem_of_getElem? (i := 15) (by decide +kernel))) sj_cs_16 (fun q9 S9 hp => ?_)
  refine sj_astore_n_3 C 8 rfl dL_oath_7 rfl rfl ?_
  refine sj_bipush C (-102) 10 rfl dL_oath_8 (by decide) ?_
  refine sj_iret C hR rfl rfl dL_oath_10 ?_
  exact ⟨rfl, hp⟩
theorem cw_L_187 : sj_Vw RL 187 mL_oath [(0, 6, 7, 16)] 3 := ⟨wr_11 _ (List.mem_of_getElem? (i := 11) (by decide +kernel)), wr_11 _ (List.mem_of_getElem? (i := 12) (by decide +kernel)), wr_5 _ (List.mem_of_getElem? (i := 15) (by decide +kernel)), wr_11 _ (List.mem_of_getElem? (i := 13) (by decide +kernel)), ⟨by decide +kernel, by decide +kernel⟩, by decide +kernel⟩
set_option maxRecDepth 100000 in
set_option maxHeartbeats 100000 in
theorem ct_L_count_r (l : Launch) {S : sj_St} {x : Nat} (kd_x : sj_kd S x = some 6) (v0 : Int32) {r : Int32} {P : sj_St → Prop} (hc : sj_Ctr l mX6_count [.ref x, .int v0] S (fun v T => v = some (.int r) ∧ P T)) : sj_CtW l mL_count [(0, 5, 6, 16)] [.ref x, .int v0] S (fun v T => v = some (.int r) ∧ P T) := by
  refine sj_startW ([some (.ref x), some (.int v0), none]) (by decide +kernel) rfl rfl (fun X hX C hR hH => ?_)
  subst hX
  refine sj_aload_n C 1 rfl dL_count_0 rfl rfl ?_
  refine sj_iload_n C 2 rfl dL_count_1 rfl rfl ?_
  refine sj_callV C 5 rfl dL_count_2 cv_L_62 rfl (hc) rfl rfl rfl ⟨_, _, kd_x, rfl, rfl, by decide⟩ (fun v_2 S_2 hp_2 => ?_)
  obtain ⟨rfl, hp⟩ := hp_2
  refine sj_iret C hR rfl rfl dL_count_5 ?_
  exact ⟨rfl, hp⟩
set_option maxRecDepth 100000 in
set_option maxHeartbeats 100000 in
theorem ct_L_count_1 (l : Launch) {S : sj_St} {x : Nat} (kd_x : sj_kd S x = some 6) (v0 : Int32) {P : sj_St → Prop} (hc : sj_CtX l mX6_count [.ref x, .int v0] S "java/lang/IllegalArgumentException" P) : sj_CtW l mL_count [(0, 5, 6, 16)] [.ref x, .int v0] S (fun v T => v = some (.int (-102)) ∧ P T) := by
  refine sj_startW ([some (.ref x), some (.int v0), none]) (by decide +kernel) rfl rfl (fun X hX C hR hH => ?_)
  subst hX
  refine sj_aload_n C 1 rfl dL_count_0 rfl rfl ?_
  refine sj_iload_n C 2 rfl dL_count_1 rfl rfl ?_
  refine sj_callX C hH ((tableOf [(0, 5, 6, 16)]).take 0) ((tableOf [(0, 5, 6, 16)])[0]'(by decide)) ((tableOf [(0, 5, 6, 16)]).drop 1) rfl dL_count_2 cv_L_62 rfl hc rfl rfl rfl ⟨_, _, kd_x, rfl, rfl, by decide⟩ (fun U h3 z hz => by cases hz) rfl (by decide) (wr_6 _ (List.mem_of_getElem? (i := 15) (by decide +kernel))) sj_cs_16 (fun q9 S9 hp => ?_)
  refine sj_astore_n_2 C 7 rfl dL_count_6 rfl rfl ?_
  refine sj_bipush C (-102) 9 rfl dL_count_7 (by decide) ?_
  refine sj_iret C hR rfl rfl dL_count_9 ?_
  exact ⟨rfl, hp⟩
theorem cw_L_181 : sj_Vw RL 181 mL_count [(0, 5, 6, 16)] 2 := ⟨wr_7 _ (List.mem_of_getElem? (i := 15) (by decide +kernel)), wr_7 _ (List.mem_of_getElem? (i := 16) (by decide +kernel)), wr_5 _ (List.mem_of_getElem? (i := 15) (by decide +kernel)), wr_7 _ (List.mem_of_getElem? (i := 17) (by decide +kernel)), ⟨by decide +kernel, by decide +kernel⟩, by decide +kernel⟩
set_option maxRecDepth 100000 in
set_option maxHeartbeats 100000 in
theorem ct_L_whyNot_r (l : Launch) {S : sj_St} {x : Nat} (kd_x : sj_kd S x = some 6) (v0 : Int32) (v1 : Int32) (v2 : Int32) {r : Int32} {P : sj_St → Prop} (hc : sj_Ctr l mX6_whyNot [.ref x, .int v0, .int v1, .int v2] S (fun v T => v = some (.int r) ∧ P T)) : sj_CtW l mL_whyNot [(0, 7, 8, 23)] [.ref x, .int v0, .int v1, .int v2] S (fun v T => v = some (.int r) ∧ P T) := by
  refine sj_startW ([some (.ref x), some (.int v0), some (.int v1), some (.int v2), none]) (by decide +kernel) rfl rfl (fun X hX C hR hH => ?_)
  subst hX
  refine sj_aload_n C 1 rfl dL_whyNot_0 rfl rfl ?_
  refine sj_iload_n C 2 rfl dL_whyNot_1 rfl rfl ?_
  refine sj_iload_n C 3 rfl dL_whyNot_2 rfl rfl ?_
  refine sj_iload_n C 4 rfl dL_whyNot_3 rfl rfl ?_
  refine sj_callV C 7 rfl dL_whyNot_4 cv_L_65 rfl (hc) rfl rfl rfl ⟨_, _, kd_x, rfl, rfl, by decide⟩ (fun v_4 S_4 hp_4 => ?_)
  obtain ⟨rfl, hp⟩ := hp_4
  refine sj_iret C hR rfl rfl dL_whyNot_7 ?_
  exact ⟨rfl, hp⟩
set_option maxRecDepth 100000 in
set_option maxHeartbeats 100000 in
theorem ct_L_whyNot_1 (l : Launch) {S : sj_St} {x : Nat} (kd_x : sj_kd S x = some 6) (v0 : Int32) (v1 : Int32) (v2 : Int32) {P : sj_St → Prop} (hc : sj_CtX l mX6_whyNot [.ref x, .int v0, .int v1, .int v2] S "java/lang/IndexOutOfBoundsException" P) : sj_CtW l mL_whyNot [(0, 7, 8, 23)] [.ref x, .int v0, .int v1, .int v2] S (fun v T => v = some (.int (-101)) ∧ P T) := by
  refine sj_startW ([some (.ref x), some (.int v0), some (.int v1), some (.int v2), none]) (by decide +kernel) rfl rfl (fun X hX C hR hH => ?_)
  subst hX
  refine sj_aload_n C 1 rfl dL_whyNot_0 rfl rfl ?_
  refine sj_iload_n C 2 rfl dL_whyNot_1 rfl rfl ?_
  refine sj_iload_n C 3 rfl dL_whyNot_2 rfl rfl ?_
  refine sj_iload_n C 4 rfl dL_whyNot_3 rfl rfl ?_
  refine sj_callX C hH ((tableOf [(0, 7, 8, 23)]).take 0) ((tableOf [(0, 7, 8, 23)])[0]'(by decide)) ((tableOf [(0, 7, 8, 23)]).drop 1) rfl dL_whyNot_4 cv_L_65 rfl hc rfl rfl rfl ⟨_, _, kd_x, rfl, rfl, by decide⟩ (fun U h3 z hz => by cases hz) rfl (by decide) (wr_12 _ (List.mem_of_getElem? (i := 9) (by decide +kernel))) sj_cs_23 (fun q9 S9 hp => ?_)
  refine sj_astore_4 C 10 rfl dL_whyNot_8 rfl rfl ?_
  refine sj_bipush C (-101) 12 rfl dL_whyNot_10 (by decide) ?_
  refine sj_iret C hR rfl rfl dL_whyNot_12 ?_
  exact ⟨rfl, hp⟩
theorem cw_L_179 : sj_Vw RL 179 mL_whyNot [(0, 7, 8, 23)] 4 := ⟨wr_27 _ (List.mem_of_getElem? (i := 16) (by decide +kernel)), wr_27 _ (List.mem_of_getElem? (i := 17) (by decide +kernel)), wr_5 _ (List.mem_of_getElem? (i := 15) (by decide +kernel)), wr_27 _ (List.mem_of_getElem? (i := 18) (by decide +kernel)), ⟨by decide +kernel, by decide +kernel⟩, by decide +kernel⟩
set_option maxRecDepth 100000 in
set_option maxHeartbeats 100000 in
theorem ct_L_nearest_r (l : Launch) {S : sj_St} {x : Nat} (kd_x : sj_kd S x = some 6) (v0 : Int32) {r : Int32} {P : sj_St → Prop} (hc : sj_Ctr l mX6_nearest [.ref x, .int v0] S (fun v T => v = some (.int r) ∧ P T)) : sj_CtW l mL_nearest [(0, 5, 6, 23)] [.ref x, .int v0] S (fun v T => v = some (.int r) ∧ P T) := by
  refine sj_startW ([some (.ref x), some (.int v0), none]) (by decide +kernel) rfl rfl (fun X hX C hR hH => ?_)
  subst hX
  refine sj_aload_n C 1 rfl dL_nearest_0 rfl rfl ?_
  refine sj_iload_n C 2 rfl dL_nearest_1 rfl rfl ?_
  refine sj_callV C 5 rfl dL_nearest_2 cv_L_68 rfl (hc) rfl rfl rfl ⟨_, _, kd_x, rfl, rfl, by decide⟩ (fun v_2 S_2 hp_2 => ?_)
  obtain ⟨rfl, hp⟩ := hp_2
  refine sj_iret C hR rfl rfl dL_nearest_5 ?_
  exact ⟨rfl, hp⟩
set_option maxRecDepth 100000 in
set_option maxHeartbeats 100000 in
theorem ct_L_nearest_1 (l : Launch) {S : sj_St} {x : Nat} (kd_x : sj_kd S x = some 6) (v0 : Int32) {P : sj_St → Prop} (hc : sj_CtX l mX6_nearest [.ref x, .int v0] S "java/lang/IndexOutOfBoundsException" P) : sj_CtW l mL_nearest [(0, 5, 6, 23)] [.ref x, .int v0] S (fun v T => v = some (.int (-101)) ∧ P T) := by
  refine sj_startW ([some (.ref x), some (.int v0), none]) (by decide +kernel) rfl rfl (fun X hX C hR hH => ?_)
  subst hX
  refine sj_aload_n C 1 rfl dL_nearest_0 rfl rfl ?_
  refine sj_iload_n C 2 rfl dL_nearest_1 rfl rfl ?_
  refine sj_callX C hH ((tableOf [(0, 5, 6, 23)]).take 0) ((tableOf [(0, 5, 6, 23)])[0]'(by decide)) ((tableOf [(0, 5, 6, 23)]).drop 1) rfl dL_nearest_2 cv_L_68 rfl hc rfl rfl rfl ⟨_, _, kd_x, rfl, rfl, by decide⟩ (fun U h3 z hz => by cases hz) rfl (by decide) (wr_12 _ (List.mem_of_getElem? (i := 9) (by decide +kernel))) sj_cs_23 (fun q9 S9 hp => ?_)
  refine sj_astore_n_2 C 7 rfl dL_nearest_6 rfl rfl ?_
  refine sj_bipush C (-101) 9 rfl dL_nearest_7 (by decide) ?_
  refine sj_iret C hR rfl rfl dL_nearest_9 ?_
  exact ⟨rfl, hp⟩
theorem cw_L_169 : sj_Vw RL 169 mL_nearest [(0, 5, 6, 23)] 2 := ⟨wr_25 _ (List.mem_of_getElem? (i := 17) (by decide +kernel)), wr_25 _ (List.mem_of_getElem? (i := 18) (by decide +kernel)), wr_5 _ (List.mem_of_getElem? (i := 15) (by decide +kernel)), wr_25 _ (List.mem_of_getElem? (i := 19) (by decide +kernel)), ⟨by decide +kernel, by decide +kernel⟩, by decide +kernel⟩
set_option maxRecDepth 100000 in
set_option maxHeartbeats 100000 in
theorem ct_L_toleranceFor_r (l : Launch) {S : sj_St} {x : Nat} (kd_x : sj_kd S x = some 6) (v0 : Int32) (v1 : Int32) (v2 : Int32) {r : Int32} {P : sj_St → Prop} (hc : sj_Ctr l mX6_toleranceFor [.ref x, .int v0, .int v1, .int v2] S (fun v T => v = some (.int r) ∧ P T)) : sj_CtW l mL_toleranceFor [(0, 7, 8, 23), (0, 7, 13, 16)] [.ref x, .int v0, .int v1, .int v2] S (fun v T => v = some (.int r) ∧ P T) := by
  refine sj_startW ([some (.ref x), some (.int v0), some (.int v1), some (.int v2), none]) (by decide +kernel) rfl rfl (fun X hX C hR hH => ?_)
  subst hX
  refine sj_aload_n C 1 rfl dL_toleranceFor_0 rfl rfl ?_
  refine sj_iload_n C 2 rfl dL_toleranceFor_1 rfl rfl ?_
  refine sj_iload_n C 3 rfl dL_toleranceFor_2 rfl rfl ?_
  refine sj_iload_n C 4 rfl dL_toleranceFor_3 rfl rfl ?_
  refine sj_callV C 7 rfl dL_toleranceFor_4 cv_L_71 rfl (hc) rfl rfl rfl ⟨_, _, kd_x, rfl, rfl, by decide⟩ (fun v_4 S_4 hp_4 => ?_)
  obtain ⟨rfl, hp⟩ := hp_4
  refine sj_iret C hR rfl rfl dL_toleranceFor_7 ?_
  exact ⟨rfl, hp⟩
set_option maxRecDepth 100000 in
set_option maxHeartbeats 100000 in
theorem ct_L_toleranceFor_1 (l : Launch) {S : sj_St} {x : Nat} (kd_x : sj_kd S x = some 6) (v0 : Int32) (v1 : Int32) (v2 : Int32) {P : sj_St → Prop} (hc : sj_CtX l mX6_toleranceFor [.ref x, .int v0, .int v1, .int v2] S "java/lang/IndexOutOfBoundsException" P) : sj_CtW l mL_toleranceFor [(0, 7, 8, 23), (0, 7, 13, 16)] [.ref x, .int v0, .int v1, .int v2] S (fun v T => v = some (.int (-101)) ∧ P T) := by
  refine sj_startW ([some (.ref x), some (.int v0), some (.int v1), some (.int v2), none]) (by decide +kernel) rfl rfl (fun X hX C hR hH => ?_)
  subst hX
  refine sj_aload_n C 1 rfl dL_toleranceFor_0 rfl rfl ?_
  refine sj_iload_n C 2 rfl dL_toleranceFor_1 rfl rfl ?_
  refine sj_iload_n C 3 rfl dL_toleranceFor_2 rfl rfl ?_
  refine sj_iload_n C 4 rfl dL_toleranceFor_3 rfl rfl ?_
  refine sj_callX C hH ((tableOf [(0, 7, 8, 23), (0, 7, 13, 16)]).take 0) ((tableOf [(0, 7, 8, 23), (0, 7, 13, 16)])[0]'(by decide)) ((tableOf [(0, 7, 8, 23), (0, 7, 13, 16)]).drop 1) rfl dL_toleranceFor_4 cv_L_71 rfl hc rfl rfl rfl ⟨_, _, kd_x, rfl, rfl, by decide⟩ (fun U h3 z hz => by cases hz) rfl (by decide) (wr_12 _ (List.mem_of_getElem? (i := 9) (by decide +kernel))) sj_cs_23 (fun q9 S9 hp => ?_)
  refine sj_astore_4 C 10 rfl dL_toleranceFor_8 rfl rfl ?_
  refine sj_bipush C (-101) 12 rfl dL_toleranceFor_10 (by decide) ?_
  refine sj_iret C hR rfl rfl dL_toleranceFor_12 ?_
  exact ⟨rfl, hp⟩
set_option maxRecDepth 100000 in
set_option maxHeartbeats 100000 in
theorem ct_L_toleranceFor_2 (l : Launch) {S : sj_St} {x : Nat} (kd_x : sj_kd S x = some 6) (v0 : Int32) (v1 : Int32) (v2 : Int32) {P : sj_St → Prop} (hc : sj_CtX l mX6_toleranceFor [.ref x, .int v0, .int v1, .int v2] S "java/lang/IllegalArgumentException" P) : sj_CtW l mL_toleranceFor [(0, 7, 8, 23), (0, 7, 13, 16)] [.ref x, .int v0, .int v1, .int v2] S (fun v T => v = some (.int (-102)) ∧ P T) := by
  refine sj_startW ([some (.ref x), some (.int v0), some (.int v1), some (.int v2), none]) (by decide +kernel) rfl rfl (fun X hX C hR hH => ?_)
  subst hX
  refine sj_aload_n C 1 rfl dL_toleranceFor_0 rfl rfl ?_
  refine sj_iload_n C 2 rfl dL_toleranceFor_1 rfl rfl ?_
  refine sj_iload_n C 3 rfl dL_toleranceFor_2 rfl rfl ?_
  refine sj_iload_n C 4 rfl dL_toleranceFor_3 rfl rfl ?_
  refine sj_callX C hH ((tableOf [(0, 7, 8, 23), (0, 7, 13, 16)]).take 1) ((tableOf [(0, 7, 8, 23), (0, 7, 13, 16)])[1]'(by decide)) ((tableOf [(0, 7, 8, 23), (0, 7, 13, 16)]).drop 2) rfl dL_toleranceFor_4 cv_L_71 rfl hc rfl rfl rfl ⟨_, _, kd_x, rfl, rfl, by decide⟩ (fun U h3 z hz => Or.inr (by rw [List.mem_singleton.mp (show z ∈ [(tableOf [(0, 7, 8, 23), (0, 7, 13, 16)])[0]'(by decide)] from hz)]; exact ⟨by decide, _, wr_12 _ (List.mem_of_getElem? (i := 9) (by decide +kernel)), h3.2.1⟩)) rfl (by decide) (wr_6 _ (List.mem_of_getElem? (i := 15) (by decide +kernel))) sj_cs_16 (fun q9 S9 hp => ?_)
  refine sj_astore_4 C 15 rfl dL_toleranceFor_13 rfl rfl ?_
  refine sj_bipush C (-102) 17 rfl dL_toleranceFor_15 (by decide) ?_
  refine sj_iret C hR rfl rfl dL_toleranceFor_17 ?_
  exact ⟨rfl, hp⟩
theorem cw_L_177 : sj_Vw RL 177 mL_toleranceFor [(0, 7, 8, 23), (0, 7, 13, 16)] 4 := ⟨wr_27 _ (List.mem_of_getElem? (i := 5) (by decide +kernel)), wr_27 _ (List.mem_of_getElem? (i := 6) (by decide +kernel)), wr_5 _ (List.mem_of_getElem? (i := 15) (by decide +kernel)), wr_27 _ (List.mem_of_getElem? (i := 7) (by decide +kernel)), ⟨by decide +kernel, by decide +kernel⟩, by decide +kernel⟩
set_option maxRecDepth 100000 in
set_option maxHeartbeats 100000 in
theorem ct_L_ifPassed_r (l : Launch) {S : sj_St} {x : Nat} (kd_x : sj_kd S x = some 6) (v0 : Int32) (v1 : Int32) (v2 : Int32) {r : Int32} {P : sj_St → Prop} (hc : sj_Ctr l mX6_ifPassed [.ref x, .int v0, .int v1, .int v2] S (fun v T => v = some (.int r) ∧ P T)) : sj_CtW l mL_ifPassed [(0, 7, 8, 23), (0, 7, 13, 16)] [.ref x, .int v0, .int v1, .int v2] S (fun v T => v = some (.int r) ∧ P T) := by
  refine sj_startW ([some (.ref x), some (.int v0), some (.int v1), some (.int v2), none]) (by decide +kernel) rfl rfl (fun X hX C hR hH => ?_)
  subst hX
  refine sj_aload_n C 1 rfl dL_ifPassed_0 rfl rfl ?_
  refine sj_iload_n C 2 rfl dL_ifPassed_1 rfl rfl ?_
  refine sj_iload_n C 3 rfl dL_ifPassed_2 rfl rfl ?_
  refine sj_iload_n C 4 rfl dL_ifPassed_3 rfl rfl ?_
  refine sj_callV C 7 rfl dL_ifPassed_4 cv_L_74 rfl (hc) rfl rfl rfl ⟨_, _, kd_x, rfl, rfl, by decide⟩ (fun v_4 S_4 hp_4 => ?_)
  obtain ⟨rfl, hp⟩ := hp_4
  refine sj_iret C hR rfl rfl dL_ifPassed_7 ?_
  exact ⟨rfl, hp⟩
set_option maxRecDepth 100000 in
set_option maxHeartbeats 100000 in
theorem ct_L_ifPassed_1 (l : Launch) {S : sj_St} {x : Nat} (kd_x : sj_kd S x = some 6) (v0 : Int32) (v1 : Int32) (v2 : Int32) {P : sj_St → Prop} (hc : sj_CtX l mX6_ifPassed [.ref x, .int v0, .int v1, .int v2] S "java/lang/IndexOutOfBoundsException" P) : sj_CtW l mL_ifPassed [(0, 7, 8, 23), (0, 7, 13, 16)] [.ref x, .int v0, .int v1, .int v2] S (fun v T => v = some (.int (-101)) ∧ P T) := by
  refine sj_startW ([some (.ref x), some (.int v0), some (.int v1), some (.int v2), none]) (by decide +kernel) rfl rfl (fun X hX C hR hH => ?_)
  subst hX
  refine sj_aload_n C 1 rfl dL_ifPassed_0 rfl rfl ?_
  refine sj_iload_n C 2 rfl dL_ifPassed_1 rfl rfl ?_
  refine sj_iload_n C 3 rfl dL_ifPassed_2 rfl rfl ?_
  refine sj_iload_n C 4 rfl dL_ifPassed_3 rfl rfl ?_
  refine sj_callX C hH ((tableOf [(0, 7, 8, 23), (0, 7, 13, 16)]).take 0) ((tableOf [(0, 7, 8, 23), (0, 7, 13, 16)])[0]'(by decide)) ((tableOf [(0, 7, 8, 23), (0, 7, 13, 16)]).drop 1) rfl dL_ifPassed_4 cv_L_74 rfl hc rfl rfl rfl ⟨_, _, kd_x, rfl, rfl, by decide⟩ (fun U h3 z hz => by cases hz) rfl (by decide) (wr_12 _ (List.mem_of_getElem? (i := 9) (by decide +kernel))) sj_cs_23 (fun q9 S9 hp => ?_)
  refine sj_astore_4 C 10 rfl dL_ifPassed_8 rfl rfl ?_
  refine sj_bipush C (-101) 12 rfl dL_ifPassed_10 (by decide) ?_
  refine sj_iret C hR rfl rfl dL_ifPassed_12 ?_
  exact ⟨rfl, hp⟩
set_option maxRecDepth 100000 in
set_option maxHeartbeats 100000 in
theorem ct_L_ifPassed_2 (l : Launch) {S : sj_St} {x : Nat} (kd_x : sj_kd S x = some 6) (v0 : Int32) (v1 : Int32) (v2 : Int32) {P : sj_St → Prop} (hc : sj_CtX l mX6_ifPassed [.ref x, .int v0, .int v1, .int v2] S "java/lang/IllegalArgumentException" P) : sj_CtW l mL_ifPassed [(0, 7, 8, 23), (0, 7, 13, 16)] [.ref x, .int v0, .int v1, .int v2] S (fun v T => v = some (.int (-102)) ∧ P T) := by
  refine sj_startW ([some (.ref x), some (.int v0), some (.int v1), some (.int v2), none]) (by decide +kernel) rfl rfl (fun X hX C hR hH => ?_)
  subst hX
  refine sj_aload_n C 1 rfl dL_ifPassed_0 rfl rfl ?_
  refine sj_iload_n C 2 rfl dL_ifPassed_1 rfl rfl ?_
  refine sj_iload_n C 3 rfl dL_ifPassed_2 rfl rfl ?_
  refine sj_iload_n C 4 rfl dL_ifPassed_3 rfl rfl ?_
  refine sj_callX C hH ((tableOf [(0, 7, 8, 23), (0, 7, 13, 16)]).take 1) ((tableOf [(0, 7, 8, 23), (0, 7, 13, 16)])[1]'(by decide)) ((tableOf [(0, 7, 8, 23), (0, 7, 13, 16)]).drop 2) rfl dL_ifPassed_4 cv_L_74 rfl hc rfl rfl rfl ⟨_, _, kd_x, rfl, rfl, by decide⟩ (fun U h3 z hz => Or.inr (by rw [List.mem_singleton.mp (show z ∈ [(tableOf [(0, 7, 8, 23), (0, 7, 13, 16)])[0]'(by decide)] from hz)]; exact ⟨by decide, _, wr_12 _ (List.mem_of_getElem? (i := 9) (by decide +kernel)), h3.2.1⟩)) rfl (by decide) (wr_6 _ (List.mem_of_getElem? (i := 15) (by decide +kernel))) sj_cs_16 (fun q9 S9 hp => ?_)
  refine sj_astore_4 C 15 rfl dL_ifPassed_13 rfl rfl ?_
  refine sj_bipush C (-102) 17 rfl dL_ifPassed_15 (by decide) ?_
  refine sj_iret C hR rfl rfl dL_ifPassed_17 ?_
  exact ⟨rfl, hp⟩
theorem cw_L_173 : sj_Vw RL 173 mL_ifPassed [(0, 7, 8, 23), (0, 7, 13, 16)] 4 := ⟨wr_26 _ (List.mem_of_getElem? (i := 21) (by decide +kernel)), wr_26 _ (List.mem_of_getElem? (i := 22) (by decide +kernel)), wr_5 _ (List.mem_of_getElem? (i := 15) (by decide +kernel)), wr_26 _ (List.mem_of_getElem? (i := 23) (by decide +kernel)), ⟨by decide +kernel, by decide +kernel⟩, by decide +kernel⟩
