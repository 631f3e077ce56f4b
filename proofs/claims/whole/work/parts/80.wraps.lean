/-! THE LAW'S CALLS OF THE CLASS: what is returned goes into a cell, what is thrown is told -/
theorem sj_cs_13 : Cond.castable "java/lang/IllegalArgumentException" "java/lang/IllegalArgumentException" ∈ sj_XWl := by decide +kernel
theorem sj_cs_15 : Cond.castable "java/lang/IllegalStateException" "java/lang/IllegalStateException" ∈ sj_XWl := by decide +kernel
theorem sj_cs_20 : Cond.castable "java/lang/IndexOutOfBoundsException" "java/lang/IndexOutOfBoundsException" ∈ sj_XWl := by decide +kernel
/-- a cell for one long -/
def sj_ou (S : sj_St) (o : Nat) : Prop := sj_kd S o = some 11 ∧ sj_il S o = 1
theorem sj_ou_in {S : sj_St} {o : Nat} (h : sj_ou S o) : vp_in (0 : Int32) (sj_il S o) := by
  rw [h.2]
  exact (show vp_in (nI 0) 1 from vp_in_nI (by omega) (by omega))
set_option maxRecDepth 100000 in
set_option maxHeartbeats 100000 in
theorem ct_L_lay_r (l : Launch) {S : sj_St} {x o : Nat} (kd_x : sj_kd S x = some 6) (ho : sj_ou S o) (v0 : Int32) {r : Int32} {P : sj_St → Prop} (hc : sj_Ctr l mX6_lay [.ref x, .int v0] S (fun v T => v = some (.int r) ∧ P T)) (hk : ∀ T, P T → sj_ou T o) : sj_CtW l mL_lay [(0, 9, 12, 13), (0, 9, 15, 15)] [.ref x, .int v0, .ref o] S (fun v T => v = some (.int 0) ∧ ∃ T0, P T0 ∧ T = sj_wLa T0 o 0 (r.toInt64)) := by
  refine sj_startW ([some (.ref x), some (.int v0), some (.ref o), none]) (by decide +kernel) rfl rfl (fun X hX C hR hH => ?_)
  subst hX
  refine sj_aload_n C 1 rfl dL_lay_0 rfl rfl ?_
  refine sj_iconstv C (0) 2 rfl dL_lay_1 rfl ?_
  refine sj_aload_n C 3 rfl dL_lay_2 rfl rfl ?_
  refine sj_iload_n C 4 rfl dL_lay_3 rfl rfl ?_
  refine sj_callV C 7 rfl dL_lay_4 cv_L_7 rfl (hc) rfl rfl rfl ⟨_, _, kd_x, rfl, rfl, by decide⟩ (fun v_4 S_4 hp_4 => ?_)
  obtain ⟨rfl, hp⟩ := hp_4
  have ho2 := hk S_4 hp
  have kd_o := ho2.1
  refine sj_i2l C 8 rfl dL_lay_7 ?_
  refine sj_last C 9 rfl dL_lay_8 kd_o (sj_ou_in ho2) ?_
  refine sj_goto C 18 rfl dL_lay_9 ?_
  refine sj_iconstv C (0) 19 rfl dL_lay_18 rfl ?_
  refine sj_iret C hR rfl rfl dL_lay_19 ?_
  exact ⟨rfl, _, hp, rfl⟩
set_option maxRecDepth 100000 in
set_option maxHeartbeats 100000 in
theorem ct_L_lay_1 (l : Launch) {S : sj_St} {x o : Nat} (kd_x : sj_kd S x = some 6) (ho : sj_ou S o) (v0 : Int32) {P : sj_St → Prop} (hc : sj_CtX l mX6_lay [.ref x, .int v0] S "java/lang/IllegalArgumentException" P) : sj_CtW l mL_lay [(0, 9, 12, 13), (0, 9, 15, 15)] [.ref x, .int v0, .ref o] S (fun v T => v = some (.int 1) ∧ P T) := by
  refine sj_startW ([some (.ref x), some (.int v0), some (.ref o), none]) (by decide +kernel) rfl rfl (fun X hX C hR hH => ?_)
  subst hX
  refine sj_aload_n C 1 rfl dL_lay_0 rfl rfl ?_
  refine sj_iconstv C (0) 2 rfl dL_lay_1 rfl ?_
  refine sj_aload_n C 3 rfl dL_lay_2 rfl rfl ?_
  refine sj_iload_n C 4 rfl dL_lay_3 rfl rfl ?_
  refine sj_callX C hH ((tableOf [(0, 9, 12, 13), (0, 9, 15, 15)]).take 0) ((tableOf [(0, 9, 12, 13), (0, 9, 15, 15)])[0]'(by decide)) ((tableOf [(0, 9, 12, 13), (0, 9, 15, 15)]).drop 1) rfl dL_lay_4 cv_L_7 rfl hc rfl rfl rfl ⟨_, _, kd_x, rfl, rfl, by decide⟩ (fun U h3 z hz => by cases hz) rfl (by decide) (wr_6 _ (List.mem_of_getElem? (i := 8) (by decide +kernel))) sj_cs_13 (fun q9 S9 hp => ?_)
  refine sj_astore_n_3 C 13 rfl dL_lay_12 rfl rfl ?_
  refine sj_iconstv C (1) 14 rfl dL_lay_13 rfl ?_
  refine sj_iret C hR rfl rfl dL_lay_14 ?_
  exact ⟨rfl, hp⟩
set_option maxRecDepth 100000 in
set_option maxHeartbeats 100000 in
theorem ct_L_lay_2 (l : Launch) {S : sj_St} {x o : Nat} (kd_x : sj_kd S x = some 6) (ho : sj_ou S o) (v0 : Int32) {P : sj_St → Prop} (hc : sj_CtX l mX6_lay [.ref x, .int v0] S "java/lang/IllegalStateException" P) : sj_CtW l mL_lay [(0, 9, 12, 13), (0, 9, 15, 15)] [.ref x, .int v0, .ref o] S (fun v T => v = some (.int 2) ∧ P T) := by
  refine sj_startW ([some (.ref x), some (.int v0), some (.ref o), none]) (by decide +kernel) rfl rfl (fun X hX C hR hH => ?_)
  subst hX
  refine sj_aload_n C 1 rfl dL_lay_0 rfl rfl ?_
  refine sj_iconstv C (0) 2 rfl dL_lay_1 rfl ?_
  refine sj_aload_n C 3 rfl dL_lay_2 rfl rfl ?_
  refine sj_iload_n C 4 rfl dL_lay_3 rfl rfl ?_
  refine sj_callX C hH ((tableOf [(0, 9, 12, 13), (0, 9, 15, 15)]).take 1) ((tableOf [(0, 9, 12, 13), (0, 9, 15, 15)])[1]'(by decide)) ((tableOf [(0, 9, 12, 13), (0, 9, 15, 15)]).drop 2) rfl dL_lay_4 cv_L_7 rfl hc rfl rfl rfl ⟨_, _, kd_x, rfl, rfl, by decide⟩ (fun U h3 z hz => Or.inr (by rw [List.mem_singleton.mp (show z ∈ [(tableOf [(0, 9, 12, 13), (0, 9, 15, 15)])[0]'(by decide)] from hz)]; exact ⟨by decide, _, wr_6 _ (List.mem_of_getElem? (i := 8) (by decide +kernel)), h3.1⟩)) rfl (by decide) (wr_6 _ (List.mem_of_getElem? (i := 9) (by decide +kernel))) sj_cs_15 (fun q9 S9 hp => ?_)
  refine sj_astore_n_3 C 16 rfl dL_lay_15 rfl rfl ?_
  refine sj_iconstv C (2) 17 rfl dL_lay_16 rfl ?_
  refine sj_iret C hR rfl rfl dL_lay_17 ?_
  exact ⟨rfl, hp⟩
set_option maxRecDepth 100000 in
set_option maxHeartbeats 100000 in
theorem ct_L_drop_r (l : Launch) {S : sj_St} {x o : Nat} (kd_x : sj_kd S x = some 6) (ho : sj_ou S o) (v0 : Int32) {r : Int32} {P : sj_St → Prop} (hc : sj_Ctr l mX6_drop [.ref x, .int v0] S (fun v T => v = some (.int r) ∧ P T)) (hk : ∀ T, P T → sj_ou T o) : sj_CtW l mL_drop [(0, 9, 12, 20)] [.ref x, .int v0, .ref o] S (fun v T => v = some (.int 0) ∧ ∃ T0, P T0 ∧ T = sj_wLa T0 o 0 (r.toInt64)) := by
  refine sj_startW ([some (.ref x), some (.int v0), some (.ref o), none]) (by decide +kernel) rfl rfl (fun X hX C hR hH => ?_)
  subst hX
  refine sj_aload_n C 1 rfl dL_drop_0 rfl rfl ?_
  refine sj_iconstv C (0) 2 rfl dL_drop_1 rfl ?_
  refine sj_aload_n C 3 rfl dL_drop_2 rfl rfl ?_
  refine sj_iload_n C 4 rfl dL_drop_3 rfl rfl ?_
  refine sj_callV C 7 rfl dL_drop_4 cv_L_17 rfl (hc) rfl rfl rfl ⟨_, _, kd_x, rfl, rfl, by decide⟩ (fun v_4 S_4 hp_4 => ?_)
  obtain ⟨rfl, hp⟩ := hp_4
  have ho2 := hk S_4 hp
  have kd_o := ho2.1
  refine sj_i2l C 8 rfl dL_drop_7 ?_
  refine sj_last C 9 rfl dL_drop_8 kd_o (sj_ou_in ho2) ?_
  refine sj_goto C 15 rfl dL_drop_9 ?_
  refine sj_iconstv C (0) 16 rfl dL_drop_15 rfl ?_
  refine sj_iret C hR rfl rfl dL_drop_16 ?_
  exact ⟨rfl, _, hp, rfl⟩
set_option maxRecDepth 100000 in
set_option maxHeartbeats 100000 in
theorem ct_L_drop_1 (l : Launch) {S : sj_St} {x o : Nat} (kd_x : sj_kd S x = some 6) (ho : sj_ou S o) (v0 : Int32) {P : sj_St → Prop} (hc : sj_CtX l mX6_drop [.ref x, .int v0] S "java/lang/IndexOutOfBoundsException" P) : sj_CtW l mL_drop [(0, 9, 12, 20)] [.ref x, .int v0, .ref o] S (fun v T => v = some (.int 1) ∧ P T) := by
  refine sj_startW ([some (.ref x), some (.int v0), some (.ref o), none]) (by decide +kernel) rfl rfl (fun X hX C hR hH => ?_)
  subst hX
  refine sj_aload_n C 1 rfl dL_drop_0 rfl rfl ?_
  refine sj_iconstv C (0) 2 rfl dL_drop_1 rfl ?_
  refine sj_aload_n C 3 rfl dL_drop_2 rfl rfl ?_
  refine sj_iload_n C 4 rfl dL_drop_3 rfl rfl ?_
  refine sj_callX C hH ((tableOf [(0, 9, 12, 20)]).take 0) ((tableOf [(0, 9, 12, 20)])[0]'(by decide)) ((tableOf [(0, 9, 12, 20)]).drop 1) rfl dL_drop_4 cv_L_17 rfl hc rfl rfl rfl ⟨_, _, kd_x, rfl, rfl, by decide⟩ (fun U h3 z hz => by cases hz) rfl (by decide) (wr_13 _ (List.mem_of_getElem? (i := 16) (by decide +kernel))) sj_cs_20 (fun q9 S9 hp => ?_)
  refine sj_astore_n_3 C 13 rfl dL_drop_12 rfl rfl ?_
  refine sj_iconstv C (1) 14 rfl dL_drop_13 rfl ?_
  refine sj_iret C hR rfl rfl dL_drop_14 ?_
  exact ⟨rfl, hp⟩
set_option maxRecDepth 100000 in
set_option maxHeartbeats 100000 in
theorem ct_L_pass_r (l : Launch) {S : sj_St} {x o : Nat} (kd_x : sj_kd S x = some 6) (ho : sj_ou S o) (v0 : Int32) {r : Int32} {P : sj_St → Prop} (hc : sj_Ctr l mX6_pass [.ref x, .int v0] S (fun v T => v = some (.int r) ∧ P T)) (hk : ∀ T, P T → sj_ou T o) : sj_CtW l mL_pass [(0, 9, 12, 13)] [.ref x, .int v0, .ref o] S (fun v T => v = some (.int 0) ∧ ∃ T0, P T0 ∧ T = sj_wLa T0 o 0 (r.toInt64)) := by
  refine sj_startW ([some (.ref x), some (.int v0), some (.ref o), none]) (by decide +kernel) rfl rfl (fun X hX C hR hH => ?_)
  subst hX
  refine sj_aload_n C 1 rfl dL_pass_0 rfl rfl ?_
  refine sj_iconstv C (0) 2 rfl dL_pass_1 rfl ?_
  refine sj_aload_n C 3 rfl dL_pass_2 rfl rfl ?_
  refine sj_iload_n C 4 rfl dL_pass_3 rfl rfl ?_
  refine sj_callV C 7 rfl dL_pass_4 cv_L_22 rfl (hc) rfl rfl rfl ⟨_, _, kd_x, rfl, rfl, by decide⟩ (fun v_4 S_4 hp_4 => ?_)
  obtain ⟨rfl, hp⟩ := hp_4
  have ho2 := hk S_4 hp
  have kd_o := ho2.1
  refine sj_i2l C 8 rfl dL_pass_7 ?_
  refine sj_last C 9 rfl dL_pass_8 kd_o (sj_ou_in ho2) ?_
  refine sj_goto C 15 rfl dL_pass_9 ?_
  refine sj_iconstv C (0) 16 rfl dL_pass_15 rfl ?_
  refine sj_iret C hR rfl rfl dL_pass_16 ?_
  exact ⟨rfl, _, hp, rfl⟩
set_option maxRecDepth 100000 in
set_option maxHeartbeats 100000 in
theorem ct_L_pass_1 (l : Launch) {S : sj_St} {x o : Nat} (kd_x : sj_kd S x = some 6) (ho : sj_ou S o) (v0 : Int32) {P : sj_St → Prop} (hc : sj_CtX l mX6_pass [.ref x, .int v0] S "java/lang/IllegalArgumentException" P) : sj_CtW l mL_pass [(0, 9, 12, 13)] [.ref x, .int v0, .ref o] S (fun v T => v = some (.int 1) ∧ P T) := by
  refine sj_startW ([some (.ref x), some (.int v0), some (.ref o), none]) (by decide +kernel) rfl rfl (fun X hX C hR hH => ?_)
  subst hX
  refine sj_aload_n C 1 rfl dL_pass_0 rfl rfl ?_
  refine sj_iconstv C (0) 2 rfl dL_pass_1 rfl ?_
  refine sj_aload_n C 3 rfl dL_pass_2 rfl rfl ?_
  refine sj_iload_n C 4 rfl dL_pass_3 rfl rfl ?_
  refine sj_callX C hH ((tableOf [(0, 9, 12, 13)]).take 0) ((tableOf [(0, 9, 12, 13)])[0]'(by decide)) ((tableOf [(0, 9, 12, 13)]).drop 1) rfl dL_pass_4 cv_L_22 rfl hc rfl rfl rfl ⟨_, _, kd_x, rfl, rfl, by decide⟩ (fun U h3 z hz => by cases hz) rfl (by decide) (wr_6 _ (List.mem_of_getElem? (i := 8) (by decide +kernel))) sj_cs_13 (fun q9 S9 hp => ?_)
  refine sj_astore_n_3 C 13 rfl dL_pass_12 rfl rfl ?_
  refine sj_iconstv C (1) 14 rfl dL_pass_13 rfl ?_
  refine sj_iret C hR rfl rfl dL_pass_14 ?_
  exact ⟨rfl, hp⟩
set_option maxRecDepth 100000 in
set_option maxHeartbeats 100000 in
theorem ct_L_set_r (l : Launch) {S : sj_St} {x o : Nat} (kd_x : sj_kd S x = some 6) (ho : sj_ou S o) (v0 : Int32) (v1 : Int32) {r : Int32} {P : sj_St → Prop} (hc : sj_Ctr l mX6_set [.ref x, .int v0, .int v1] S (fun v T => v = some (.int r) ∧ P T)) (hk : ∀ T, P T → sj_ou T o) : sj_CtW l mL_set [(0, 10, 13, 20), (0, 10, 17, 13)] [.ref x, .int v0, .int v1, .ref o] S (fun v T => v = some (.int 0) ∧ ∃ T0, P T0 ∧ T = sj_wLa T0 o 0 (r.toInt64)) := by
  refine sj_startW ([some (.ref x), some (.int v0), some (.int v1), some (.ref o), none]) (by decide +kernel) rfl rfl (fun X hX C hR hH => ?_)
  subst hX
  refine sj_aload_n C 1 rfl dL_set_0 rfl rfl ?_
  refine sj_iconstv C (0) 2 rfl dL_set_1 rfl ?_
  refine sj_aload_n C 3 rfl dL_set_2 rfl rfl ?_
  refine sj_iload_n C 4 rfl dL_set_3 rfl rfl ?_
  refine sj_iload_n C 5 rfl dL_set_4 rfl rfl ?_
  refine sj_callV C 8 rfl dL_set_5 cv_L_25 rfl (hc) rfl rfl rfl ⟨_, _, kd_x, rfl, rfl, by decide⟩ (fun v_5 S_5 hp_5 => ?_)
  obtain ⟨rfl, hp⟩ := hp_5
  have ho2 := hk S_5 hp
  have kd_o := ho2.1
  refine sj_i2l C 9 rfl dL_set_8 ?_
  refine sj_last C 10 rfl dL_set_9 kd_o (sj_ou_in ho2) ?_
  refine sj_goto C 21 rfl dL_set_10 ?_
  refine sj_iconstv C (0) 22 rfl dL_set_21 rfl ?_
  refine sj_iret C hR rfl rfl dL_set_22 ?_
  exact ⟨rfl, _, hp, rfl⟩
set_option maxRecDepth 100000 in
set_option maxHeartbeats 100000 in
theorem ct_L_set_1 (l : Launch) {S : sj_St} {x o : Nat} (kd_x : sj_kd S x = some 6) (ho : sj_ou S o) (v0 : Int32) (v1 : Int32) {P : sj_St → Prop} (hc : sj_CtX l mX6_set [.ref x, .int v0, .int v1] S "java/lang/IndexOutOfBoundsException" P) : sj_CtW l mL_set [(0, 10, 13, 20), (0, 10, 17, 13)] [.ref x, .int v0, .int v1, .ref o] S (fun v T => v = some (.int 1) ∧ P T) := by
  refine sj_startW ([some (.ref x), some (.int v0), some (.int v1), some (.ref o), none]) (by decide +kernel) rfl rfl (fun X hX C hR hH => ?_)
  subst hX
  refine sj_aload_n C 1 rfl dL_set_0 rfl rfl ?_
  refine sj_iconstv C (0) 2 rfl dL_set_1 rfl ?_
  refine sj_aload_n C 3 rfl dL_set_2 rfl rfl ?_
  refine sj_iload_n C 4 rfl dL_set_3 rfl rfl ?_
  refine sj_iload_n C 5 rfl dL_set_4 rfl rfl ?_
  refine sj_callX C hH ((tableOf [(0, 10, 13, 20), (0, 10, 17, 13)]).take 0) ((tableOf [(0, 10, 13, 20), (0, 10, 17, 13)])[0]'(by decide)) ((tableOf [(0, 10, 13, 20), (0, 10, 17, 13)]).drop 1) rfl dL_set_5 cv_L_25 rfl hc rfl rfl rfl ⟨_, _, kd_x, rfl, rfl, by decide⟩ (fun U h3 z hz => by cases hz) rfl (by decide) (wr_13 _ (List.mem_of_getElem? (i := 16) (by decide +kernel))) sj_cs_20 (fun q9 S9 hp => ?_)
  refine sj_astore_4 C 15 rfl dL_set_13 rfl rfl ?_
  refine sj_iconstv C (1) 16 rfl dL_set_15 rfl ?_
  refine sj_iret C hR rfl rfl dL_set_16 ?_
  exact ⟨rfl, hp⟩
set_option maxRecDepth 100000 in
set_option maxHeartbeats 100000 in
theorem ct_L_set_2 (l : Launch) {S : sj_St} {x o : Nat} (kd_x : sj_kd S x = some 6) (ho : sj_ou S o) (v0 : Int32) (v1 : Int32) {P : sj_St → Prop} (hc : sj_CtX l mX6_set [.ref x, .int v0, .int v1] S "java/lang/IllegalArgumentException" P) : sj_CtW l mL_set [(0, 10, 13, 20), (0, 10, 17, 13)] [.ref x, .int v0, .int v1, .ref o] S (fun v T => v = some (.int 2) ∧ P T) := by
  refine sj_startW ([some (.ref x), some (.int v0), some (.int v1), some (.ref o), none]) (by decide +kernel) rfl rfl (fun X hX C hR hH => ?_)
  subst hX
  refine sj_aload_n C 1 rfl dL_set_0 rfl rfl ?_
  refine sj_iconstv C (0) 2 rfl dL_set_1 rfl ?_
  refine sj_aload_n C 3 rfl dL_set_2 rfl rfl ?_
  refine sj_iload_n C 4 rfl dL_set_3 rfl rfl ?_
  refine sj_iload_n C 5 rfl dL_set_4 rfl rfl ?_
  refine sj_callX C hH ((tableOf [(0, 10, 13, 20), (0, 10, 17, 13)]).take 1) ((tableOf [(0, 10, 13, 20), (0, 10, 17, 13)])[1]'(by decide)) ((tableOf [(0, 10, 13, 20), (0, 10, 17, 13)]).drop 2) rfl dL_set_5 cv_L_25 rfl hc rfl rfl rfl ⟨_, _, kd_x, rfl, rfl, by decide⟩ (fun U h3 z hz => Or.inr (by rw [List.mem_singleton.mp (show z ∈ [(tableOf [(0, 10, 13, 20), (0, 10, 17, 13)])[0]'(by decide)] from hz)]; exact ⟨by decide, _, wr_13 _ (List.mem_of_getElem? (i := 16) (by decide +kernel)), h3.2.1⟩)) rfl (by decide) (wr_6 _ (List.mem_of_getElem? (i := 8) (by decide +kernel))) sj_cs_13 (fun q9 S9 hp => ?_)
  refine sj_astore_4 C 19 rfl dL_set_17 rfl rfl ?_
  refine sj_iconstv C (2) 20 rfl dL_set_19 rfl ?_
  refine sj_iret C hR rfl rfl dL_set_20 ?_
  exact ⟨rfl, hp⟩
set_option maxRecDepth 100000 in
set_option maxHeartbeats 100000 in
theorem ct_L_swear_r (l : Launch) {S : sj_St} {x o : Nat} (kd_x : sj_kd S x = some 6) (ho : sj_ou S o) (v0 : Int32) (v1 : Int32) (v2 : Int32) {r : Int32} {P : sj_St → Prop} (hc : sj_Ctr l mX6_swear [.ref x, .int v0, .int v1, .int v2] S (fun v T => v = some (.int r) ∧ P T)) (hk : ∀ T, P T → sj_ou T o) : sj_CtW l mL_swear [(0, 12, 15, 20), (0, 12, 19, 15)] [.ref x, .int v0, .int v1, .int v2, .ref o] S (fun v T => v = some (.int 0) ∧ ∃ T0, P T0 ∧ T = sj_wLa T0 o 0 (r.toInt64)) := by
  refine sj_startW ([some (.ref x), some (.int v0), some (.int v1), some (.int v2), some (.ref o), none]) (by decide +kernel) rfl rfl (fun X hX C hR hH => ?_)
  subst hX
  refine sj_aload C 2 rfl dL_swear_0 rfl ?_
  refine sj_iconstv C (0) 3 rfl dL_swear_2 rfl ?_
  refine sj_aload_n C 4 rfl dL_swear_3 rfl rfl ?_
  refine sj_iload_n C 5 rfl dL_swear_4 rfl rfl ?_
  refine sj_iload_n C 6 rfl dL_swear_5 rfl rfl ?_
  refine sj_iload_n C 7 rfl dL_swear_6 rfl rfl ?_
  refine sj_callV C 10 rfl dL_swear_7 cv_L_29 rfl (hc) rfl rfl rfl ⟨_, _, kd_x, rfl, rfl, by decide⟩ (fun v_7 S_7 hp_7 => ?_)
  obtain ⟨rfl, hp⟩ := hp_7
  have ho2 := hk S_7 hp
  have kd_o := ho2.1
  refine sj_i2l C 11 rfl dL_swear_10 ?_
  refine sj_last C 12 rfl dL_swear_11 kd_o (sj_ou_in ho2) ?_
  refine sj_goto C 23 rfl dL_swear_12 ?_
  refine sj_iconstv C (0) 24 rfl dL_swear_23 rfl ?_
  refine sj_iret C hR rfl rfl dL_swear_24 ?_
  exact ⟨rfl, _, hp, rfl⟩
set_option maxRecDepth 100000 in
set_option maxHeartbeats 100000 in
theorem ct_L_swear_1 (l : Launch) {S : sj_St} {x o : Nat} (kd_x : sj_kd S x = some 6) (ho : sj_ou S o) (v0 : Int32) (v1 : Int32) (v2 : Int32) {P : sj_St → Prop} (hc : sj_CtX l mX6_swear [.ref x, .int v0, .int v1, .int v2] S "java/lang/IndexOutOfBoundsException" P) : sj_CtW l mL_swear [(0, 12, 15, 20), (0, 12, 19, 15)] [.ref x, .int v0, .int v1, .int v2, .ref o] S (fun v T => v = some (.int 1) ∧ P T) := by
  refine sj_startW ([some (.ref x), some (.int v0), some (.int v1), some (.int v2), some (.ref o), none]) (by decide +kernel) rfl rfl (fun X hX C hR hH => ?_)
  subst hX
  refine sj_aload C 2 rfl dL_swear_0 rfl ?_
  refine sj_iconstv C (0) 3 rfl dL_swear_2 rfl ?_
  refine sj_aload_n C 4 rfl dL_swear_3 rfl rfl ?_
  refine sj_iload_n C 5 rfl dL_swear_4 rfl rfl ?_
  refine sj_iload_n C 6 rfl dL_swear_5 rfl rfl ?_
  refine sj_iload_n C 7 rfl dL_swear_6 rfl rfl ?_
  refine sj_callX C hH ((tableOf [(0, 12, 15, 20), (0, 12, 19, 15)]).take 0) ((tableOf [(0, 12, 15, 20), (0, 12, 19, 15)])[0]'(by decide)) ((tableOf [(0, 12, 15, 20), (0, 12, 19, 15)]).drop 1) rfl dL_swear_7 cv_L_29 rfl hc rfl rfl rfl ⟨_, _, kd_x, rfl, rfl, by decide⟩ (fun U h3 z hz => by cases hz) rfl (by decide) (wr_13 _ (List.mem_of_getElem? (i := 16) (by decide +kernel))) sj_cs_20 (fun q9 S9 hp => ?_)
  refine sj_astore_5 C 17 rfl dL_swear_15 rfl rfl ?_
  refine sj_iconstv C (1) 18 rfl dL_swear_17 rfl ?_
  refine sj_iret C hR rfl rfl dL_swear_18 ?_
  exact ⟨rfl, hp⟩
set_option maxRecDepth 100000 in
set_option maxHeartbeats 100000 in
theorem ct_L_swear_2 (l : Launch) {S : sj_St} {x o : Nat} (kd_x : sj_kd S x = some 6) (ho : sj_ou S o) (v0 : Int32) (v1 : Int32) (v2 : Int32) {P : sj_St → Prop} (hc : sj_CtX l mX6_swear [.ref x, .int v0, .int v1, .int v2] S "java/lang/IllegalStateException" P) : sj_CtW l mL_swear [(0, 12, 15, 20), (0, 12, 19, 15)] [.ref x, .int v0, .int v1, .int v2, .ref o] S (fun v T => v = some (.int 2) ∧ P T) := by
  refine sj_startW ([some (.ref x), some (.int v0), some (.int v1), some (.int v2), some (.ref o), none]) (by decide +kernel) rfl rfl (fun X hX C hR hH => ?_)
  subst hX
  refine sj_aload C 2 rfl dL_swear_0 rfl ?_
  refine sj_iconstv C (0) 3 rfl dL_swear_2 rfl ?_
  refine sj_aload_n C 4 rfl dL_swear_3 rfl rfl ?_
  refine sj_iload_n C 5 rfl dL_swear_4 rfl rfl ?_
  refine sj_iload_n C 6 rfl dL_swear_5 rfl rfl ?_
  refine sj_iload_n C 7 rfl dL_swear_6 rfl rfl ?_
  refine sj_callX C hH ((tableOf [(0, 12, 15, 20), (0, 12, 19, 15)]).take 1) ((tableOf [(0, 12, 15, 20), (0, 12, 19, 15)])[1]'(by decide)) ((tableOf [(0, 12, 15, 20), (0, 12, 19, 15)]).drop 2) rfl dL_swear_7 cv_L_29 rfl hc rfl rfl rfl ⟨_, _, kd_x, rfl, rfl, by decide⟩ (fun U h3 z hz => Or.inr (by rw [List.mem_singleton.mp (show z ∈ [(tableOf [(0, 12, 15, 20), (0, 12, 19, 15)])[0]'(by decide)] from hz)]; exact ⟨by decide, _, wr_13 _ (List.mem_of_getElem? (i := 16) (by decide +kernel)), h3.2.2⟩)) rfl (by decide) (wr_6 _ (List.mem_of_getElem? (i := 9) (by decide +kernel))) sj_cs_15 (fun q9 S9 hp => ?_)
  refine sj_astore_5 C 21 rfl dL_swear_19 rfl rfl ?_
  refine sj_iconstv C (2) 22 rfl dL_swear_21 rfl ?_
  refine sj_iret C hR rfl rfl dL_swear_22 ?_
  exact ⟨rfl, hp⟩
set_option maxRecDepth 100000 in
set_option maxHeartbeats 100000 in
theorem ct_L_recant_r (l : Launch) {S : sj_St} {x o : Nat} (kd_x : sj_kd S x = some 6) (ho : sj_ou S o) (v0 : Int32) (v1 : Int32) {r : Int32} {P : sj_St → Prop} (hc : sj_Ctr l mX6_recant [.ref x, .int v0, .int v1] S (fun v T => v = some (.int r) ∧ P T)) (hk : ∀ T, P T → sj_ou T o) : sj_CtW l mL_recant [(0, 10, 13, 20)] [.ref x, .int v0, .int v1, .ref o] S (fun v T => v = some (.int 0) ∧ ∃ T0, P T0 ∧ T = sj_wLa T0 o 0 (r.toInt64)) := by
  refine sj_startW ([some (.ref x), some (.int v0), some (.int v1), some (.ref o), none]) (by decide +kernel) rfl rfl (fun X hX C hR hH => ?_)
  subst hX
  refine sj_aload_n C 1 rfl dL_recant_0 rfl rfl ?_
  refine sj_iconstv C (0) 2 rfl dL_recant_1 rfl ?_
  refine sj_aload_n C 3 rfl dL_recant_2 rfl rfl ?_
  refine sj_iload_n C 4 rfl dL_recant_3 rfl rfl ?_
  refine sj_iload_n C 5 rfl dL_recant_4 rfl rfl ?_
  refine sj_callV C 8 rfl dL_recant_5 cv_L_33 rfl (hc) rfl rfl rfl ⟨_, _, kd_x, rfl, rfl, by decide⟩ (fun v_5 S_5 hp_5 => ?_)
  obtain ⟨rfl, hp⟩ := hp_5
  have ho2 := hk S_5 hp
  have kd_o := ho2.1
  refine sj_i2l C 9 rfl dL_recant_8 ?_
  refine sj_last C 10 rfl dL_recant_9 kd_o (sj_ou_in ho2) ?_
  refine sj_goto C 17 rfl dL_recant_10 ?_
  refine sj_iconstv C (0) 18 rfl dL_recant_17 rfl ?_
  refine sj_iret C hR rfl rfl dL_recant_18 ?_
  exact ⟨rfl, _, hp, rfl⟩
set_option maxRecDepth 100000 in
set_option maxHeartbeats 100000 in
theorem ct_L_recant_1 (l : Launch) {S : sj_St} {x o : Nat} (kd_x : sj_kd S x = some 6) (ho : sj_ou S o) (v0 : Int32) (v1 : Int32) {P : sj_St → Prop} (hc : sj_CtX l mX6_recant [.ref x, .int v0, .int v1] S "java/lang/IndexOutOfBoundsException" P) : sj_CtW l mL_recant [(0, 10, 13, 20)] [.ref x, .int v0, .int v1, .ref o] S (fun v T => v = some (.int 1) ∧ P T) := by
  refine sj_startW ([some (.ref x), some (.int v0), some (.int v1), some (.ref o), none]) (by decide +kernel) rfl rfl (fun X hX C hR hH => ?_)
  subst hX
  refine sj_aload_n C 1 rfl dL_recant_0 rfl rfl ?_
  refine sj_iconstv C (0) 2 rfl dL_recant_1 rfl ?_
  refine sj_aload_n C 3 rfl dL_recant_2 rfl rfl ?_
  refine sj_iload_n C 4 rfl dL_recant_3 rfl rfl ?_
  refine sj_iload_n C 5 rfl dL_recant_4 rfl rfl ?_
  refine sj_callX C hH ((tableOf [(0, 10, 13, 20)]).take 0) ((tableOf [(0, 10, 13, 20)])[0]'(by decide)) ((tableOf [(0, 10, 13, 20)]).drop 1) rfl dL_recant_5 cv_L_33 rfl hc rfl rfl rfl ⟨_, _, kd_x, rfl, rfl, by decide⟩ (fun U h3 z hz => by cases hz) rfl (by decide) (wr_13 _ (List.mem_of_getElem? (i := 16) (by decide +kernel))) sj_cs_20 (fun q9 S9 hp => ?_)
  refine sj_astore_4 C 15 rfl dL_recant_13 rfl rfl ?_
  refine sj_iconstv C (1) 16 rfl dL_recant_15 rfl ?_
  refine sj_iret C hR rfl rfl dL_recant_16 ?_
  exact ⟨rfl, hp⟩
set_option maxRecDepth 100000 in
set_option maxHeartbeats 100000 in
theorem ct_L_append_r (l : Launch) {S : sj_St} {x o : Nat} (kd_x : sj_kd S x = some 6) (ho : sj_ou S o) (v0 : Int32) {r : Int32} {P : sj_St → Prop} (hc : sj_Ctr l mX6_append [.ref x, .int v0] S (fun v T => v = some (.int r) ∧ P T)) (hk : ∀ T, P T → sj_ou T o) : sj_CtW l mL_append [(0, 9, 12, 13), (0, 9, 15, 15)] [.ref x, .int v0, .ref o] S (fun v T => v = some (.int 0) ∧ ∃ T0, P T0 ∧ T = sj_wLa T0 o 0 (r.toInt64)) := by
  refine sj_startW ([some (.ref x), some (.int v0), some (.ref o), none]) (by decide +kernel) rfl rfl (fun X hX C hR hH => ?_)
  subst hX
  refine sj_aload_n C 1 rfl dL_append_0 rfl rfl ?_
  refine sj_iconstv C (0) 2 rfl dL_append_1 rfl ?_
  refine sj_aload_n C 3 rfl dL_append_2 rfl rfl ?_
  refine sj_iload_n C 4 rfl dL_append_3 rfl rfl ?_
  refine sj_callV C 7 rfl dL_append_4 cv_L_36 rfl (hc) rfl rfl rfl ⟨_, _, kd_x, rfl, rfl, by decide⟩ (fun v_4 S_4 hp_4 => ?_)
  obtain ⟨rfl, hp⟩ := hp_4
  have ho2 := hk S_4 hp
  have kd_o := ho2.1
  refine sj_i2l C 8 rfl dL_append_7 ?_
  refine sj_last C 9 rfl dL_append_8 kd_o (sj_ou_in ho2) ?_
  refine sj_goto C 18 rfl dL_append_9 ?_
  refine sj_iconstv C (0) 19 rfl dL_append_18 rfl ?_
  refine sj_iret C hR rfl rfl dL_append_19 ?_
  exact ⟨rfl, _, hp, rfl⟩
set_option maxRecDepth 100000 in
set_option maxHeartbeats 100000 in
theorem ct_L_append_1 (l : Launch) {S : sj_St} {x o : Nat} (kd_x : sj_kd S x = some 6) (ho : sj_ou S o) (v0 : Int32) {P : sj_St → Prop} (hc : sj_CtX l mX6_append [.ref x, .int v0] S "java/lang/IllegalArgumentException" P) : sj_CtW l mL_append [(0, 9, 12, 13), (0, 9, 15, 15)] [.ref x, .int v0, .ref o] S (fun v T => v = some (.int 1) ∧ P T) := by
  refine sj_startW ([some (.ref x), some (.int v0), some (.ref o), none]) (by decide +kernel) rfl rfl (fun X hX C hR hH => ?_)
  subst hX
  refine sj_aload_n C 1 rfl dL_append_0 rfl rfl ?_
  refine sj_iconstv C (0) 2 rfl dL_append_1 rfl ?_
  refine sj_aload_n C 3 rfl dL_append_2 rfl rfl ?_
  refine sj_iload_n C 4 rfl dL_append_3 rfl rfl ?_
  refine sj_callX C hH ((tableOf [(0, 9, 12, 13), (0, 9, 15, 15)]).take 0) ((tableOf [(0, 9, 12, 13), (0, 9, 15, 15)])[0]'(by decide)) ((tableOf [(0, 9, 12, 13), (0, 9, 15, 15)]).drop 1) rfl dL_append_4 cv_L_36 rfl hc rfl rfl rfl ⟨_, _, kd_x, rfl, rfl, by decide⟩ (fun U h3 z hz => by cases hz) rfl (by decide) (wr_6 _ (List.mem_of_getElem? (i := 8) (by decide +kernel))) sj_cs_13 (fun q9 S9 hp => ?_)
  refine sj_astore_n_3 C 13 rfl dL_append_12 rfl rfl ?_
  refine sj_iconstv C (1) 14 rfl dL_append_13 rfl ?_
  refine sj_iret C hR rfl rfl dL_append_14 ?_
  exact ⟨rfl, hp⟩
set_option maxRecDepth 100000 in
set_option maxHeartbeats 100000 in
theorem ct_L_append_2 (l : Launch) {S : sj_St} {x o : Nat} (kd_x : sj_kd S x = some 6) (ho : sj_ou S o) (v0 : Int32) {P : sj_St → Prop} (hc : sj_CtX l mX6_append [.ref x, .int v0] S "java/lang/IllegalStateException" P) : sj_CtW l mL_append [(0, 9, 12, 13), (0, 9, 15, 15)] [.ref x, .int v0, .ref o] S (fun v T => v = some (.int 2) ∧ P T) := by
  refine sj_startW ([some (.ref x), some (.int v0), some (.ref o), none]) (by decide +kernel) rfl rfl (fun X hX C hR hH => ?_)
  subst hX
  refine sj_aload_n C 1 rfl dL_append_0 rfl rfl ?_
  refine sj_iconstv C (0) 2 rfl dL_append_1 rfl ?_
  refine sj_aload_n C 3 rfl dL_append_2 rfl rfl ?_
  refine sj_iload_n C 4 rfl dL_append_3 rfl rfl ?_
  refine sj_callX C hH ((tableOf [(0, 9, 12, 13), (0, 9, 15, 15)]).take 1) ((tableOf [(0, 9, 12, 13), (0, 9, 15, 15)])[1]'(by decide)) ((tableOf [(0, 9, 12, 13), (0, 9, 15, 15)]).drop 2) rfl dL_append_4 cv_L_36 rfl hc rfl rfl rfl ⟨_, _, kd_x, rfl, rfl, by decide⟩ (fun U h3 z hz => Or.inr (by rw [List.mem_singleton.mp (show z ∈ [(tableOf [(0, 9, 12, 13), (0, 9, 15, 15)])[0]'(by decide)] from hz)]; exact ⟨by decide, _, wr_6 _ (List.mem_of_getElem? (i := 8) (by decide +kernel)), h3.1⟩)) rfl (by decide) (wr_6 _ (List.mem_of_getElem? (i := 9) (by decide +kernel))) sj_cs_15 (fun q9 S9 hp => ?_)
  refine sj_astore_n_3 C 16 rfl dL_append_15 rfl rfl ?_
  refine sj_iconstv C (2) 17 rfl dL_append_16 rfl ?_
  refine sj_iret C hR rfl rfl dL_append_17 ?_
  exact ⟨rfl, hp⟩
set_option maxRecDepth 100000 in
set_option maxHeartbeats 100000 in
theorem ct_L_work_r (l : Launch) {S : sj_St} {x o : Nat} (kd_x : sj_kd S x = some 6) (ho : sj_ou S o) {r : Int32} {P : sj_St → Prop} (hc : sj_Ctr l mX6_work [.ref x] S (fun v T => v = some (.int r) ∧ P T)) (hk : ∀ T, P T → sj_ou T o) : sj_CtW l mL_work [(0, 8, 11, 13)] [.ref x, .ref o] S (fun v T => v = some (.int 0) ∧ ∃ T0, P T0 ∧ T = sj_wLa T0 o 0 (r.toInt64)) := by
  refine sj_startW ([some (.ref x), some (.ref o), none]) (by decide +kernel) rfl rfl (fun X hX C hR hH => ?_)
  subst hX
  refine sj_aload_n C 1 rfl dL_work_0 rfl rfl ?_
  refine sj_iconstv C (0) 2 rfl dL_work_1 rfl ?_
  refine sj_aload_n C 3 rfl dL_work_2 rfl rfl ?_
  refine sj_callV C 6 rfl dL_work_3 cv_L_39 rfl (hc) rfl rfl rfl ⟨_, _, kd_x, rfl, rfl, by decide⟩ (fun v_3 S_3 hp_3 => ?_)
  obtain ⟨rfl, hp⟩ := hp_3
  have ho2 := hk S_3 hp
  have kd_o := ho2.1
  refine sj_i2l C 7 rfl dL_work_6 ?_
  refine sj_last C 8 rfl dL_work_7 kd_o (sj_ou_in ho2) ?_
  refine sj_goto C 14 rfl dL_work_8 ?_
  refine sj_iconstv C (0) 15 rfl dL_work_14 rfl ?_
  refine sj_iret C hR rfl rfl dL_work_15 ?_
  exact ⟨rfl, _, hp, rfl⟩
set_option maxRecDepth 100000 in
set_option maxHeartbeats 100000 in
theorem ct_L_work_1 (l : Launch) {S : sj_St} {x o : Nat} (kd_x : sj_kd S x = some 6) (ho : sj_ou S o) {P : sj_St → Prop} (hc : sj_CtX l mX6_work [.ref x] S "java/lang/IllegalArgumentException" P) : sj_CtW l mL_work [(0, 8, 11, 13)] [.ref x, .ref o] S (fun v T => v = some (.int 1) ∧ P T) := by
  refine sj_startW ([some (.ref x), some (.ref o), none]) (by decide +kernel) rfl rfl (fun X hX C hR hH => ?_)
  subst hX
  refine sj_aload_n C 1 rfl dL_work_0 rfl rfl ?_
  refine sj_iconstv C (0) 2 rfl dL_work_1 rfl ?_
  refine sj_aload_n C 3 rfl dL_work_2 rfl rfl ?_
  refine sj_callX C hH ((tableOf [(0, 8, 11, 13)]).take 0) ((tableOf [(0, 8, 11, 13)])[0]'(by decide)) ((tableOf [(0, 8, 11, 13)]).drop 1) rfl dL_work_3 cv_L_39 rfl hc rfl rfl rfl ⟨_, _, kd_x, rfl, rfl, by decide⟩ (fun U h3 z hz => by cases hz) rfl (by decide) (wr_6 _ (List.mem_of_getElem? (i := 8) (by decide +kernel))) sj_cs_13 (fun q9 S9 hp => ?_)
  refine sj_astore_n_2 C 12 rfl dL_work_11 rfl rfl ?_
  refine sj_iconstv C (1) 13 rfl dL_work_12 rfl ?_
  refine sj_iret C hR rfl rfl dL_work_13 ?_
  exact ⟨rfl, hp⟩
set_option maxRecDepth 100000 in
set_option maxHeartbeats 100000 in
theorem ct_L_stopped_r (l : Launch) {S : sj_St} {x o : Nat} (kd_x : sj_kd S x = some 6) (ho : sj_ou S o) (v0 : Int32) {r : Int32} {P : sj_St → Prop} (hc : sj_Ctr l mX6_stopped [.ref x, .int v0] S (fun v T => v = some (.int r) ∧ P T)) (hk : ∀ T, P T → sj_ou T o) : sj_CtW l mL_stopped [(0, 9, 12, 13)] [.ref x, .int v0, .ref o] S (fun v T => v = some (.int 0) ∧ ∃ T0, P T0 ∧ T = sj_wLa T0 o 0 (r.toInt64)) := by
  refine sj_startW ([some (.ref x), some (.int v0), some (.ref o), none]) (by decide +kernel) rfl rfl (fun X hX C hR hH => ?_)
  subst hX
  refine sj_aload_n C 1 rfl dL_stopped_0 rfl rfl ?_
  refine sj_iconstv C (0) 2 rfl dL_stopped_1 rfl ?_
  refine sj_aload_n C 3 rfl dL_stopped_2 rfl rfl ?_
  refine sj_iload_n C 4 rfl dL_stopped_3 rfl rfl ?_
  refine sj_callV C 7 rfl dL_stopped_4 cv_L_43 rfl (hc) rfl rfl rfl ⟨_, _, kd_x, rfl, rfl, by decide⟩ (fun v_4 S_4 hp_4 => ?_)
  obtain ⟨rfl, hp⟩ := hp_4
  have ho2 := hk S_4 hp
  have kd_o := ho2.1
  refine sj_i2l C 8 rfl dL_stopped_7 ?_
  refine sj_last C 9 rfl dL_stopped_8 kd_o (sj_ou_in ho2) ?_
  refine sj_goto C 15 rfl dL_stopped_9 ?_
  refine sj_iconstv C (0) 16 rfl dL_stopped_15 rfl ?_
  refine sj_iret C hR rfl rfl dL_stopped_16 ?_
  exact ⟨rfl, _, hp, rfl⟩
set_option maxRecDepth 100000 in
set_option maxHeartbeats 100000 in
theorem ct_L_stopped_1 (l : Launch) {S : sj_St} {x o : Nat} (kd_x : sj_kd S x = some 6) (ho : sj_ou S o) (v0 : Int32) {P : sj_St → Prop} (hc : sj_CtX l mX6_stopped [.ref x, .int v0] S "java/lang/IllegalArgumentException" P) : sj_CtW l mL_stopped [(0, 9, 12, 13)] [.ref x, .int v0, .ref o] S (fun v T => v = some (.int 1) ∧ P T) := by
  refine sj_startW ([some (.ref x), some (.int v0), some (.ref o), none]) (by decide +kernel) rfl rfl (fun X hX C hR hH => ?_)
  subst hX
  refine sj_aload_n C 1 rfl dL_stopped_0 rfl rfl ?_
  refine sj_iconstv C (0) 2 rfl dL_stopped_1 rfl ?_
  refine sj_aload_n C 3 rfl dL_stopped_2 rfl rfl ?_
  refine sj_iload_n C 4 rfl dL_stopped_3 rfl rfl ?_
  refine sj_callX C hH ((tableOf [(0, 9, 12, 13)]).take 0) ((tableOf [(0, 9, 12, 13)])[0]'(by decide)) ((tableOf [(0, 9, 12, 13)]).drop 1) rfl dL_stopped_4 cv_L_43 rfl hc rfl rfl rfl ⟨_, _, kd_x, rfl, rfl, by decide⟩ (fun U h3 z hz => by cases hz) rfl (by decide) (wr_6 _ (List.mem_of_getElem? (i := 8) (by decide +kernel))) sj_cs_13 (fun q9 S9 hp => ?_)
  refine sj_astore_n_3 C 13 rfl dL_stopped_12 rfl rfl ?_
  refine sj_iconstv C (1) 14 rfl dL_stopped_13 rfl ?_
  refine sj_iret C hR rfl rfl dL_stopped_14 ?_
  exact ⟨rfl, hp⟩
set_option maxRecDepth 100000 in
set_option maxHeartbeats 100000 in
theorem ct_L_undo_r (l : Launch) {S : sj_St} {x o : Nat} (kd_x : sj_kd S x = some 6) (ho : sj_ou S o) {r : Int32} {P : sj_St → Prop} (hc : sj_Ctr l mX6_undo [.ref x] S (fun v T => v = some (.int r) ∧ P T)) (hk : ∀ T, P T → sj_ou T o) : sj_CtW l mL_undo [(0, 8, 11, 15)] [.ref x, .ref o] S (fun v T => v = some (.int 0) ∧ ∃ T0, P T0 ∧ T = sj_wLa T0 o 0 (r.toInt64)) := by
  refine sj_startW ([some (.ref x), some (.ref o), none]) (by decide +kernel) rfl rfl (fun X hX C hR hH => ?_)
  subst hX
  refine sj_aload_n C 1 rfl dL_undo_0 rfl rfl ?_
  refine sj_iconstv C (0) 2 rfl dL_undo_1 rfl ?_
  refine sj_aload_n C 3 rfl dL_undo_2 rfl rfl ?_
  refine sj_callV C 6 rfl dL_undo_3 cv_L_46 rfl (hc) rfl rfl rfl ⟨_, _, kd_x, rfl, rfl, by decide⟩ (fun v_3 S_3 hp_3 => ?_)
  obtain ⟨rfl, hp⟩ := hp_3
  have ho2 := hk S_3 hp
  have kd_o := ho2.1
  refine sj_i2l C 7 rfl dL_undo_6 ?_
  refine sj_last C 8 rfl dL_undo_7 kd_o (sj_ou_in ho2) ?_
  refine sj_goto C 14 rfl dL_undo_8 ?_
  refine sj_iconstv C (0) 15 rfl dL_undo_14 rfl ?_
  refine sj_iret C hR rfl rfl dL_undo_15 ?_
  exact ⟨rfl, _, hp, rfl⟩
set_option maxRecDepth 100000 in
set_option maxHeartbeats 100000 in
theorem ct_L_undo_1 (l : Launch) {S : sj_St} {x o : Nat} (kd_x : sj_kd S x = some 6) (ho : sj_ou S o) {P : sj_St → Prop} (hc : sj_CtX l mX6_undo [.ref x] S "java/lang/IllegalStateException" P) : sj_CtW l mL_undo [(0, 8, 11, 15)] [.ref x, .ref o] S (fun v T => v = some (.int 1) ∧ P T) := by
  refine sj_startW ([some (.ref x), some (.ref o), none]) (by decide +kernel) rfl rfl (fun X hX C hR hH => ?_)
  subst hX
  refine sj_aload_n C 1 rfl dL_undo_0 rfl rfl ?_
  refine sj_iconstv C (0) 2 rfl dL_undo_1 rfl ?_
  refine sj_aload_n C 3 rfl dL_undo_2 rfl rfl ?_
  refine sj_callX C hH ((tableOf [(0, 8, 11, 15)]).take 0) ((tableOf [(0, 8, 11, 15)])[0]'(by decide)) ((tableOf [(0, 8, 11, 15)]).drop 1) rfl dL_undo_3 cv_L_46 rfl hc rfl rfl rfl ⟨_, _, kd_x, rfl, rfl, by decide⟩ (fun U h3 z hz => by cases hz) rfl (by decide) (wr_6 _ (List.mem_of_getElem? (i := 9) (by decide +kernel))) sj_cs_15 (fun q9 S9 hp => ?_)
  refine sj_astore_n_2 C 12 rfl dL_undo_11 rfl rfl ?_
  refine sj_iconstv C (1) 13 rfl dL_undo_12 rfl ?_
  refine sj_iret C hR rfl rfl dL_undo_13 ?_
  exact ⟨rfl, hp⟩
set_option maxRecDepth 100000 in
set_option maxHeartbeats 100000 in
theorem ct_L_restore_r (l : Launch) {S : sj_St} {x o : Nat} (kd_x : sj_kd S x = some 6) (ho : sj_ou S o) {r : Int32} {P : sj_St → Prop} (hc : sj_Ctr l mX6_restore [.ref x] S (fun v T => v = some (.int r) ∧ P T)) (hk : ∀ T, P T → sj_ou T o) : sj_CtW l mL_restore [(0, 8, 11, 15)] [.ref x, .ref o] S (fun v T => v = some (.int 0) ∧ ∃ T0, P T0 ∧ T = sj_wLa T0 o 0 (r.toInt64)) := by
  refine sj_startW ([some (.ref x), some (.ref o), none]) (by decide +kernel) rfl rfl (fun X hX C hR hH => ?_)
  subst hX
  refine sj_aload_n C 1 rfl dL_restore_0 rfl rfl ?_
  refine sj_iconstv C (0) 2 rfl dL_restore_1 rfl ?_
  refine sj_aload_n C 3 rfl dL_restore_2 rfl rfl ?_
  refine sj_callV C 6 rfl dL_restore_3 cv_L_49 rfl (hc) rfl rfl rfl ⟨_, _, kd_x, rfl, rfl, by decide⟩ (fun v_3 S_3 hp_3 => ?_)
  obtain ⟨rfl, hp⟩ := hp_3
  have ho2 := hk S_3 hp
  have kd_o := ho2.1
  refine sj_i2l C 7 rfl dL_restore_6 ?_
  refine sj_last C 8 rfl dL_restore_7 kd_o (sj_ou_in ho2) ?_
  refine sj_goto C 14 rfl dL_restore_8 ?_
  refine sj_iconstv C (0) 15 rfl dL_restore_14 rfl ?_
  refine sj_iret C hR rfl rfl dL_restore_15 ?_
  exact ⟨rfl, _, hp, rfl⟩
set_option maxRecDepth 100000 in
set_option maxHeartbeats 100000 in
theorem ct_L_restore_1 (l : Launch) {S : sj_St} {x o : Nat} (kd_x : sj_kd S x = some 6) (ho : sj_ou S o) {P : sj_St → Prop} (hc : sj_CtX l mX6_restore [.ref x] S "java/lang/IllegalStateException" P) : sj_CtW l mL_restore [(0, 8, 11, 15)] [.ref x, .ref o] S (fun v T => v = some (.int 1) ∧ P T) := by
  refine sj_startW ([some (.ref x), some (.ref o), none]) (by decide +kernel) rfl rfl (fun X hX C hR hH => ?_)
  subst hX
  refine sj_aload_n C 1 rfl dL_restore_0 rfl rfl ?_
  refine sj_iconstv C (0) 2 rfl dL_restore_1 rfl ?_
  refine sj_aload_n C 3 rfl dL_restore_2 rfl rfl ?_
  refine sj_callX C hH ((tableOf [(0, 8, 11, 15)]).take 0) ((tableOf [(0, 8, 11, 15)])[0]'(by decide)) ((tableOf [(0, 8, 11, 15)]).drop 1) rfl dL_restore_3 cv_L_49 rfl hc rfl rfl rfl ⟨_, _, kd_x, rfl, rfl, by decide⟩ (fun U h3 z hz => by cases hz) rfl (by decide) (wr_6 _ (List.mem_of_getElem? (i := 9) (by decide +kernel))) sj_cs_15 (fun q9 S9 hp => ?_)
  refine sj_astore_n_2 C 12 rfl dL_restore_11 rfl rfl ?_
  refine sj_iconstv C (1) 13 rfl dL_restore_12 rfl ?_
  refine sj_iret C hR rfl rfl dL_restore_13 ?_
  exact ⟨rfl, hp⟩
set_option maxRecDepth 100000 in
set_option maxHeartbeats 100000 in
theorem ct_L_sheet_r (l : Launch) {S : sj_St} {x o : Nat} (kd_x : sj_kd S x = some 6) (ho : sj_ou S o) (v0 : Int32) (v1 : Int32) {r : Int32} {P : sj_St → Prop} (hc : sj_Ctr l mX6_sheet [.ref x, .int v0, .int v1] S (fun v T => v = some (.int r) ∧ P T)) (hk : ∀ T, P T → sj_ou T o) : sj_CtW l mL_sheet [(0, 10, 13, 20), (0, 10, 17, 13)] [.ref x, .int v0, .int v1, .ref o] S (fun v T => v = some (.int 0) ∧ ∃ T0, P T0 ∧ T = sj_wLa T0 o 0 (r.toInt64)) := by
  refine sj_startW ([some (.ref x), some (.int v0), some (.int v1), some (.ref o), none]) (by decide +kernel) rfl rfl (fun X hX C hR hH => ?_)
  subst hX
  refine sj_aload_n C 1 rfl dL_sheet_0 rfl rfl ?_
  refine sj_iconstv C (0) 2 rfl dL_sheet_1 rfl ?_
  refine sj_aload_n C 3 rfl dL_sheet_2 rfl rfl ?_
  refine sj_iload_n C 4 rfl dL_sheet_3 rfl rfl ?_
  refine sj_iload_n C 5 rfl dL_sheet_4 rfl rfl ?_
  refine sj_callV C 8 rfl dL_sheet_5 cv_L_52 rfl (hc) rfl rfl rfl ⟨_, _, kd_x, rfl, rfl, by decide⟩ (fun v_5 S_5 hp_5 => ?_)
  obtain ⟨rfl, hp⟩ := hp_5
  have ho2 := hk S_5 hp
  have kd_o := ho2.1
  refine sj_i2l C 9 rfl dL_sheet_8 ?_
  refine sj_last C 10 rfl dL_sheet_9 kd_o (sj_ou_in ho2) ?_
  refine sj_goto C 21 rfl dL_sheet_10 ?_
  refine sj_iconstv C (0) 22 rfl dL_sheet_21 rfl ?_
  refine sj_iret C hR rfl rfl dL_sheet_22 ?_
  exact ⟨rfl, _, hp, rfl⟩
set_option maxRecDepth 100000 in
set_option maxHeartbeats 100000 in
theorem ct_L_sheet_1 (l : Launch) {S : sj_St} {x o : Nat} (kd_x : sj_kd S x = some 6) (ho : sj_ou S o) (v0 : Int32) (v1 : Int32) {P : sj_St → Prop} (hc : sj_CtX l mX6_sheet [.ref x, .int v0, .int v1] S "java/lang/IndexOutOfBoundsException" P) : sj_CtW l mL_sheet [(0, 10, 13, 20), (0, 10, 17, 13)] [.ref x, .int v0, .int v1, .ref o] S (fun v T => v = some (.int 1) ∧ P T) := by
  refine sj_startW ([some (.ref x), some (.int v0), some (.int v1), some (.ref o), none]) (by decide +kernel) rfl rfl (fun X hX C hR hH => ?_)
  subst hX
  refine sj_aload_n C 1 rfl dL_sheet_0 rfl rfl ?_
  refine sj_iconstv C (0) 2 rfl dL_sheet_1 rfl ?_
  refine sj_aload_n C 3 rfl dL_sheet_2 rfl rfl ?_
  refine sj_iload_n C 4 rfl dL_sheet_3 rfl rfl ?_
  refine sj_iload_n C 5 rfl dL_sheet_4 rfl rfl ?_
  refine sj_callX C hH ((tableOf [(0, 10, 13, 20), (0, 10, 17, 13)]).take 0) ((tableOf [(0, 10, 13, 20), (0, 10, 17, 13)])[0]'(by decide)) ((tableOf [(0, 10, 13, 20), (0, 10, 17, 13)]).drop 1) rfl dL_sheet_5 cv_L_52 rfl hc rfl rfl rfl ⟨_, _, kd_x, rfl, rfl, by decide⟩ (fun U h3 z hz => by cases hz) rfl (by decide) (wr_13 _ (List.mem_of_getElem? (i := 16) (by decide +kernel))) sj_cs_20 (fun q9 S9 hp => ?_)
  refine sj_astore_4 C 15 rfl dL_sheet_13 rfl rfl ?_
  refine sj_iconstv C (1) 16 rfl dL_sheet_15 rfl ?_
  refine sj_iret C hR rfl rfl dL_sheet_16 ?_
  exact ⟨rfl, hp⟩
set_option maxRecDepth 100000 in
set_option maxHeartbeats 100000 in
theorem ct_L_sheet_2 (l : Launch) {S : sj_St} {x o : Nat} (kd_x : sj_kd S x = some 6) (ho : sj_ou S o) (v0 : Int32) (v1 : Int32) {P : sj_St → Prop} (hc : sj_CtX l mX6_sheet [.ref x, .int v0, .int v1] S "java/lang/IllegalArgumentException" P) : sj_CtW l mL_sheet [(0, 10, 13, 20), (0, 10, 17, 13)] [.ref x, .int v0, .int v1, .ref o] S (fun v T => v = some (.int 2) ∧ P T) := by
  refine sj_startW ([some (.ref x), some (.int v0), some (.int v1), some (.ref o), none]) (by decide +kernel) rfl rfl (fun X hX C hR hH => ?_)
  subst hX
  refine sj_aload_n C 1 rfl dL_sheet_0 rfl rfl ?_
  refine sj_iconstv C (0) 2 rfl dL_sheet_1 rfl ?_
  refine sj_aload_n C 3 rfl dL_sheet_2 rfl rfl ?_
  refine sj_iload_n C 4 rfl dL_sheet_3 rfl rfl ?_
  refine sj_iload_n C 5 rfl dL_sheet_4 rfl rfl ?_
  refine sj_callX C hH ((tableOf [(0, 10, 13, 20), (0, 10, 17, 13)]).take 1) ((tableOf [(0, 10, 13, 20), (0, 10, 17, 13)])[1]'(by decide)) ((tableOf [(0, 10, 13, 20), (0, 10, 17, 13)]).drop 2) rfl dL_sheet_5 cv_L_52 rfl hc rfl rfl rfl ⟨_, _, kd_x, rfl, rfl, by decide⟩ (fun U h3 z hz => Or.inr (by rw [List.mem_singleton.mp (show z ∈ [(tableOf [(0, 10, 13, 20), (0, 10, 17, 13)])[0]'(by decide)] from hz)]; exact ⟨by decide, _, wr_13 _ (List.mem_of_getElem? (i := 16) (by decide +kernel)), h3.2.1⟩)) rfl (by decide) (wr_6 _ (List.mem_of_getElem? (i := 8) (by decide +kernel))) sj_cs_13 (fun q9 S9 hp => ?_)
  refine sj_astore_4 C 19 rfl dL_sheet_17 rfl rfl ?_
  refine sj_iconstv C (2) 20 rfl dL_sheet_19 rfl ?_
  refine sj_iret C hR rfl rfl dL_sheet_20 ?_
  exact ⟨rfl, hp⟩
set_option maxRecDepth 100000 in
set_option maxHeartbeats 100000 in
theorem ct_L_stroke_r (l : Launch) {S : sj_St} {x o : Nat} (kd_x : sj_kd S x = some 6) (ho : sj_ou S o) (v0 : Int32) (v1 : Int32) (v2 : Int32) {r : Int32} {P : sj_St → Prop} (hc : sj_Ctr l mX6_stroke [.ref x, .int v0, .int v1, .int v2] S (fun v T => v = some (.int r) ∧ P T)) (hk : ∀ T, P T → sj_ou T o) : sj_CtW l mL_stroke [(0, 12, 15, 20), (0, 12, 19, 13)] [.ref x, .int v0, .int v1, .int v2, .ref o] S (fun v T => v = some (.int 0) ∧ ∃ T0, P T0 ∧ T = sj_wLa T0 o 0 (r.toInt64)) := by
  refine sj_startW ([some (.ref x), some (.int v0), some (.int v1), some (.int v2), some (.ref o), none]) (by decide +kernel) rfl rfl (fun X hX C hR hH => ?_)
  subst hX
  refine sj_aload C 2 rfl dL_stroke_0 rfl ?_
  refine sj_iconstv C (0) 3 rfl dL_stroke_2 rfl ?_
  refine sj_aload_n C 4 rfl dL_stroke_3 rfl rfl ?_
  refine sj_iload_n C 5 rfl dL_stroke_4 rfl rfl ?_
  refine sj_iload_n C 6 rfl dL_stroke_5 rfl rfl ?_
  refine sj_iload_n C 7 rfl dL_stroke_6 rfl rfl ?_
  refine sj_callV C 10 rfl dL_stroke_7 cv_L_55 rfl (hc) rfl rfl rfl ⟨_, _, kd_x, rfl, rfl, by decide⟩ (fun v_7 S_7 hp_7 => ?_)
  obtain ⟨rfl, hp⟩ := hp_7
  have ho2 := hk S_7 hp
  have kd_o := ho2.1
  refine sj_i2l C 11 rfl dL_stroke_10 ?_
  refine sj_last C 12 rfl dL_stroke_11 kd_o (sj_ou_in ho2) ?_
  refine sj_goto C 23 rfl dL_stroke_12 ?_
  refine sj_iconstv C (0) 24 rfl dL_stroke_23 rfl ?_
  refine sj_iret C hR rfl rfl dL_stroke_24 ?_
  exact ⟨rfl, _, hp, rfl⟩
set_option maxRecDepth 100000 in
set_option maxHeartbeats 100000 in
theorem ct_L_stroke_1 (l : Launch) {S : sj_St} {x o : Nat} (kd_x : sj_kd S x = some 6) (ho : sj_ou S o) (v0 : Int32) (v1 : Int32) (v2 : Int32) {P : sj_St → Prop} (hc : sj_CtX l mX6_stroke [.ref x, .int v0, .int v1, .int v2] S "java/lang/IndexOutOfBoundsException" P) : sj_CtW l mL_stroke [(0, 12, 15, 20), (0, 12, 19, 13)] [.ref x, .int v0, .int v1, .int v2, .ref o] S (fun v T => v = some (.int 1) ∧ P T) := by
  refine sj_startW ([some (.ref x), some (.int v0), some (.int v1), some (.int v2), some (.ref o), none]) (by decide +kernel) rfl rfl (fun X hX C hR hH => ?_)
  subst hX
  refine sj_aload C 2 rfl dL_stroke_0 rfl ?_
  refine sj_iconstv C (0) 3 rfl dL_stroke_2 rfl ?_
  refine sj_aload_n C 4 rfl dL_stroke_3 rfl rfl ?_
  refine sj_iload_n C 5 rfl dL_stroke_4 rfl rfl ?_
  refine sj_iload_n C 6 rfl dL_stroke_5 rfl rfl ?_
  refine sj_iload_n C 7 rfl dL_stroke_6 rfl rfl ?_
  refine sj_callX C hH ((tableOf [(0, 12, 15, 20), (0, 12, 19, 13)]).take 0) ((tableOf [(0, 12, 15, 20), (0, 12, 19, 13)])[0]'(by decide)) ((tableOf [(0, 12, 15, 20), (0, 12, 19, 13)]).drop 1) rfl dL_stroke_7 cv_L_55 rfl hc rfl rfl rfl ⟨_, _, kd_x, rfl, rfl, by decide⟩ (fun U h3 z hz => by cases hz) rfl (by decide) (wr_13 _ (List.mem_of_getElem? (i := 16) (by decide +kernel))) sj_cs_20 (fun q9 S9 hp => ?_)
  refine sj_astore_5 C 17 rfl dL_stroke_15 rfl rfl ?_
  refine sj_iconstv C (1) 18 rfl dL_stroke_17 rfl ?_
  refine sj_iret C hR rfl rfl dL_stroke_18 ?_
  exact ⟨rfl, hp⟩
set_option maxRecDepth 100000 in
set_option maxHeartbeats 100000 in
theorem ct_L_stroke_2 (l : Launch) {S : sj_St} {x o : Nat} (kd_x : sj_kd S x = some 6) (ho : sj_ou S o) (v0 : Int32) (v1 : Int32) (v2 : Int32) {P : sj_St → Prop} (hc : sj_CtX l mX6_stroke [.ref x, .int v0, .int v1, .int v2] S "java/lang/IllegalArgumentException" P) : sj_CtW l mL_stroke [(0, 12, 15, 20), (0, 12, 19, 13)] [.ref x, .int v0, .int v1, .int v2, .ref o] S (fun v T => v = some (.int 2) ∧ P T) := by
  refine sj_startW ([some (.ref x), some (.int v0), some (.int v1), some (.int v2), some (.ref o), none]) (by decide +kernel) rfl rfl (fun X hX C hR hH => ?_)
  subst hX
  refine sj_aload C 2 rfl dL_stroke_0 rfl ?_
  refine sj_iconstv C (0) 3 rfl dL_stroke_2 rfl ?_
  refine sj_aload_n C 4 rfl dL_stroke_3 rfl rfl ?_
  refine sj_iload_n C 5 rfl dL_stroke_4 rfl rfl ?_
  refine sj_iload_n C 6 rfl dL_stroke_5 rfl rfl ?_
  refine sj_iload_n C 7 rfl dL_stroke_6 rfl rfl ?_
  refine sj_callX C hH ((tableOf [(0, 12, 15, 20), (0, 12, 19, 13)]).take 1) ((tableOf [(0, 12, 15, 20), (0, 12, 19, 13)])[1]'(by decide)) ((tableOf [(0, 12, 15, 20), (0, 12, 19, 13)]).drop 2) rfl dL_stroke_7 cv_L_55 rfl hc rfl rfl rfl ⟨_, _, kd_x, rfl, rfl, by decide⟩ (fun U h3 z hz => Or.inr (by rw [List.mem_singleton.mp (show z ∈ [(tableOf [(0, 12, 15, 20), (0, 12, 19, 13)])[0]'(by decide)] from hz)]; exact ⟨by decide, _, wr_13 _ (List.mem_of_getElem? (i := 16) (by decide +kernel)), h3.2.1⟩)) rfl (by decide) (wr_6 _ (List.mem_of_getElem? (i := 8) (by decide +kernel))) sj_cs_13 (fun q9 S9 hp => ?_)
  refine sj_astore_5 C 21 rfl dL_stroke_19 rfl rfl ?_
  refine sj_iconstv C (2) 22 rfl dL_stroke_21 rfl ?_
  refine sj_iret C hR rfl rfl dL_stroke_22 ?_
  exact ⟨rfl, hp⟩
set_option maxRecDepth 100000 in
set_option maxHeartbeats 100000 in
theorem ct_L_mark_r (l : Launch) {S : sj_St} {x o : Nat} (kd_x : sj_kd S x = some 6) (ho : sj_ou S o) (v0 : Int32) (v1 : Int32) {r : Int32} {P : sj_St → Prop} (hc : sj_Ctr l mX6_mark [.ref x, .int v0, .int v1] S (fun v T => v = some (.int r) ∧ P T)) (hk : ∀ T, P T → sj_ou T o) : sj_CtW l mL_mark [(0, 10, 13, 20), (0, 10, 17, 13)] [.ref x, .int v0, .int v1, .ref o] S (fun v T => v = some (.int 0) ∧ ∃ T0, P T0 ∧ T = sj_wLa T0 o 0 (r.toInt64)) := by
  refine sj_startW ([some (.ref x), some (.int v0), some (.int v1), some (.ref o), none]) (by decide +kernel) rfl rfl (fun X hX C hR hH => ?_)
  subst hX
  refine sj_aload_n C 1 rfl dL_mark_0 rfl rfl ?_
  refine sj_iconstv C (0) 2 rfl dL_mark_1 rfl ?_
  refine sj_aload_n C 3 rfl dL_mark_2 rfl rfl ?_
  refine sj_iload_n C 4 rfl dL_mark_3 rfl rfl ?_
  refine sj_iload_n C 5 rfl dL_mark_4 rfl rfl ?_
  refine sj_callV C 8 rfl dL_mark_5 cv_L_59 rfl (hc) rfl rfl rfl ⟨_, _, kd_x, rfl, rfl, by decide⟩ (fun v_5 S_5 hp_5 => ?_)
  obtain ⟨rfl, hp⟩ := hp_5
  have ho2 := hk S_5 hp
  have kd_o := ho2.1
  refine sj_i2l C 9 rfl dL_mark_8 ?_
  refine sj_last C 10 rfl dL_mark_9 kd_o (sj_ou_in ho2) ?_
  refine sj_goto C 21 rfl dL_mark_10 ?_
  refine sj_iconstv C (0) 22 rfl dL_mark_21 rfl ?_
  refine sj_iret C hR rfl rfl dL_mark_22 ?_
  exact ⟨rfl, _, hp, rfl⟩
set_option maxRecDepth 100000 in
set_option maxHeartbeats 100000 in
theorem ct_L_mark_1 (l : Launch) {S : sj_St} {x o : Nat} (kd_x : sj_kd S x = some 6) (ho : sj_ou S o) (v0 : Int32) (v1 : Int32) {P : sj_St → Prop} (hc : sj_CtX l mX6_mark [.ref x, .int v0, .int v1] S "java/lang/IndexOutOfBoundsException" P) : sj_CtW l mL_mark [(0, 10, 13, 20), (0, 10, 17, 13)] [.ref x, .int v0, .int v1, .ref o] S (fun v T => v = some (.int 1) ∧ P T) := by
  refine sj_startW ([some (.ref x), some (.int v0), some (.int v1), some (.ref o), none]) (by decide +kernel) rfl rfl (fun X hX C hR hH => ?_)
  subst hX
  refine sj_aload_n C 1 rfl dL_mark_0 rfl rfl ?_
  refine sj_iconstv C (0) 2 rfl dL_mark_1 rfl ?_
  refine sj_aload_n C 3 rfl dL_mark_2 rfl rfl ?_
  refine sj_iload_n C 4 rfl dL_mark_3 rfl rfl ?_
  refine sj_iload_n C 5 rfl dL_mark_4 rfl rfl ?_
  refine sj_callX C hH ((tableOf [(0, 10, 13, 20), (0, 10, 17, 13)]).take 0) ((tableOf [(0, 10, 13, 20), (0, 10, 17, 13)])[0]'(by decide)) ((tableOf [(0, 10, 13, 20), (0, 10, 17, 13)]).drop 1) rfl dL_mark_5 cv_L_59 rfl hc rfl rfl rfl ⟨_, _, kd_x, rfl, rfl, by decide⟩ (fun U h3 z hz => by cases hz) rfl (by decide) (wr_13 _ (List.mem_of_getElem? (i := 16) (by decide +kernel))) sj_cs_20 (fun q9 S9 hp => ?_)
  refine sj_astore_4 C 15 rfl dL_mark_13 rfl rfl ?_
  refine sj_iconstv C (1) 16 rfl dL_mark_15 rfl ?_
  refine sj_iret C hR rfl rfl dL_mark_16 ?_
  exact ⟨rfl, hp⟩
set_option maxRecDepth 100000 in
set_option maxHeartbeats 100000 in
theorem ct_L_mark_2 (l : Launch) {S : sj_St} {x o : Nat} (kd_x : sj_kd S x = some 6) (ho : sj_ou S o) (v0 : Int32) (v1 : Int32) {P : sj_St → Prop} (hc : sj_CtX l mX6_mark [.ref x, .int v0, .int v1] S "java/lang/IllegalArgumentException" P) : sj_CtW l mL_mark [(0, 10, 13, 20), (0, 10, 17, 13)] [.ref x, .int v0, .int v1, .ref o] S (fun v T => v = some (.int 2) ∧ P T) := by
  refine sj_startW ([some (.ref x), some (.int v0), some (.int v1), some (.ref o), none]) (by decide +kernel) rfl rfl (fun X hX C hR hH => ?_)
  subst hX
  refine sj_aload_n C 1 rfl dL_mark_0 rfl rfl ?_
  refine sj_iconstv C (0) 2 rfl dL_mark_1 rfl ?_
  refine sj_aload_n C 3 rfl dL_mark_2 rfl rfl ?_
  refine sj_iload_n C 4 rfl dL_mark_3 rfl rfl ?_
  refine sj_iload_n C 5 rfl dL_mark_4 rfl rfl ?_
  refine sj_callX C hH ((tableOf [(0, 10, 13, 20), (0, 10, 17, 13)]).take 1) ((tableOf [(0, 10, 13, 20), (0, 10, 17, 13)])[1]'(by decide)) ((tableOf [(0, 10, 13, 20), (0, 10, 17, 13)]).drop 2) rfl dL_mark_5 cv_L_59 rfl hc rfl rfl rfl ⟨_, _, kd_x, rfl, rfl, by decide⟩ (fun U h3 z hz => Or.inr (by rw [List.mem_singleton.mp (show z ∈ [(tableOf [(0, 10, 13, 20), (0, 10, 17, 13)])[0]'(by decide)] from hz)]; exact ⟨by decide, _, wr_13 _ (List.mem_of_getElem? (i := 16) (by decide +kernel)), h3.2.1⟩)) rfl (by decide) (wr_6 _ (List.mem_of_getElem? (i := 8) (by decide +kernel))) sj_cs_13 (fun q9 S9 hp => ?_)
  refine sj_astore_4 C 19 rfl dL_mark_17 rfl rfl ?_
  refine sj_iconstv C (2) 20 rfl dL_mark_19 rfl ?_
  refine sj_iret C hR rfl rfl dL_mark_20 ?_
  exact ⟨rfl, hp⟩
set_option maxRecDepth 100000 in
set_option maxHeartbeats 100000 in
theorem ct_L_compare_r (l : Launch) {S : sj_St} {x o : Nat} (kd_x : sj_kd S x = some 6) (ho : sj_ou S o) (v0 : Int32) (v1 : Int32) (v2 : Int32) {r : Int32} {P : sj_St → Prop} (hc : sj_Ctr l mX6_compare [.ref x, .int v0, .int v1, .int v2] S (fun v T => v = some (.int r) ∧ P T)) (hk : ∀ T, P T → sj_ou T o) : sj_CtW l mL_compare [(0, 12, 15, 20), (0, 12, 19, 13)] [.ref x, .int v0, .int v1, .int v2, .ref o] S (fun v T => v = some (.int 0) ∧ ∃ T0, P T0 ∧ T = sj_wLa T0 o 0 (r.toInt64)) := by
  refine sj_startW ([some (.ref x), some (.int v0), some (.int v1), some (.int v2), some (.ref o), none]) (by decide +kernel) rfl rfl (fun X hX C hR hH => ?_)
  subst hX
  refine sj_aload C 2 rfl dL_compare_0 rfl ?_
  refine sj_iconstv C (0) 3 rfl dL_compare_2 rfl ?_
  refine sj_aload_n C 4 rfl dL_compare_3 rfl rfl ?_
  refine sj_iload_n C 5 rfl dL_compare_4 rfl rfl ?_
  refine sj_iload_n C 6 rfl dL_compare_5 rfl rfl ?_
  refine sj_iload_n C 7 rfl dL_compare_6 rfl rfl ?_
  refine sj_callV C 10 rfl dL_compare_7 cv_L_62 rfl (hc) rfl rfl rfl ⟨_, _, kd_x, rfl, rfl, by decide⟩ (fun v_7 S_7 hp_7 => ?_)
  obtain ⟨rfl, hp⟩ := hp_7
  have ho2 := hk S_7 hp
  have kd_o := ho2.1
  refine sj_i2l C 11 rfl dL_compare_10 ?_
  refine sj_last C 12 rfl dL_compare_11 kd_o (sj_ou_in ho2) ?_
  refine sj_goto C 23 rfl dL_compare_12 ?_
  refine sj_iconstv C (0) 24 rfl dL_compare_23 rfl ?_
  refine sj_iret C hR rfl rfl dL_compare_24 ?_
  exact ⟨rfl, _, hp, rfl⟩
set_option maxRecDepth 100000 in
set_option maxHeartbeats 100000 in
theorem ct_L_compare_1 (l : Launch) {S : sj_St} {x o : Nat} (kd_x : sj_kd S x = some 6) (ho : sj_ou S o) (v0 : Int32) (v1 : Int32) (v2 : Int32) {P : sj_St → Prop} (hc : sj_CtX l mX6_compare [.ref x, .int v0, .int v1, .int v2] S "java/lang/IndexOutOfBoundsException" P) : sj_CtW l mL_compare [(0, 12, 15, 20), (0, 12, 19, 13)] [.ref x, .int v0, .int v1, .int v2, .ref o] S (fun v T => v = some (.int 1) ∧ P T) := by
  refine sj_startW ([some (.ref x), some (.int v0), some (.int v1), some (.int v2), some (.ref o), none]) (by decide +kernel) rfl rfl (fun X hX C hR hH => ?_)
  subst hX
  refine sj_aload C 2 rfl dL_compare_0 rfl ?_
  refine sj_iconstv C (0) 3 rfl dL_compare_2 rfl ?_
  refine sj_aload_n C 4 rfl dL_compare_3 rfl rfl ?_
  refine sj_iload_n C 5 rfl dL_compare_4 rfl rfl ?_
  refine sj_iload_n C 6 rfl dL_compare_5 rfl rfl ?_
  refine sj_iload_n C 7 rfl dL_compare_6 rfl rfl ?_
  refine sj_callX C hH ((tableOf [(0, 12, 15, 20), (0, 12, 19, 13)]).take 0) ((tableOf [(0, 12, 15, 20), (0, 12, 19, 13)])[0]'(by decide)) ((tableOf [(0, 12, 15, 20), (0, 12, 19, 13)]).drop 1) rfl dL_compare_7 cv_L_62 rfl hc rfl rfl rfl ⟨_, _, kd_x, rfl, rfl, by decide⟩ (fun U h3 z hz => by cases hz) rfl (by decide) (wr_13 _ (List.mem_of_getElem? (i := 16) (by decide +kernel))) sj_cs_20 (fun q9 S9 hp => ?_)
  refine sj_astore_5 C 17 rfl dL_compare_15 rfl rfl ?_
  refine sj_iconstv C (1) 18 rfl dL_compare_17 rfl ?_
  refine sj_iret C hR rfl rfl dL_compare_18 ?_
  exact ⟨rfl, hp⟩
set_option maxRecDepth 100000 in
set_option maxHeartbeats 100000 in
theorem ct_L_compare_2 (l : Launch) {S : sj_St} {x o : Nat} (kd_x : sj_kd S x = some 6) (ho : sj_ou S o) (v0 : Int32) (v1 : Int32) (v2 : Int32) {P : sj_St → Prop} (hc : sj_CtX l mX6_compare [.ref x, .int v0, .int v1, .int v2] S "java/lang/IllegalArgumentException" P) : sj_CtW l mL_compare [(0, 12, 15, 20), (0, 12, 19, 13)] [.ref x, .int v0, .int v1, .int v2, .ref o] S (fun v T => v = some (.int 2) ∧ P T) := by
  refine sj_startW ([some (.ref x), some (.int v0), some (.int v1), some (.int v2), some (.ref o), none]) (by decide +kernel) rfl rfl (fun X hX C hR hH => ?_)
  subst hX
  refine sj_aload C 2 rfl dL_compare_0 rfl ?_
  refine sj_iconstv C (0) 3 rfl dL_compare_2 rfl ?_
  refine sj_aload_n C 4 rfl dL_compare_3 rfl rfl ?_
  refine sj_iload_n C 5 rfl dL_compare_4 rfl rfl ?_
  refine sj_iload_n C 6 rfl dL_compare_5 rfl rfl ?_
  refine sj_iload_n C 7 rfl dL_compare_6 rfl rfl ?_
  refine sj_callX C hH ((tableOf [(0, 12, 15, 20), (0, 12, 19, 13)]).take 1) ((tableOf [(0, 12, 15, 20), (0, 12, 19, 13)])[1]'(by decide)) ((tableOf [(0, 12, 15, 20), (0, 12, 19, 13)]).drop 2) rfl dL_compare_7 cv_L_62 rfl hc rfl rfl rfl ⟨_, _, kd_x, rfl, rfl, by decide⟩ (fun U h3 z hz => Or.inr (by rw [List.mem_singleton.mp (show z ∈ [(tableOf [(0, 12, 15, 20), (0, 12, 19, 13)])[0]'(by decide)] from hz)]; exact ⟨by decide, _, wr_13 _ (List.mem_of_getElem? (i := 16) (by decide +kernel)), h3.2.1⟩)) rfl (by decide) (wr_6 _ (List.mem_of_getElem? (i := 8) (by decide +kernel))) sj_cs_13 (fun q9 S9 hp => ?_)
  refine sj_astore_5 C 21 rfl dL_compare_19 rfl rfl ?_
  refine sj_iconstv C (2) 22 rfl dL_compare_21 rfl ?_
  refine sj_iret C hR rfl rfl dL_compare_22 ?_
  exact ⟨rfl, hp⟩
set_option maxRecDepth 100000 in
set_option maxHeartbeats 100000 in
theorem ct_L_oath_r (l : Launch) {S : sj_St} {x o : Nat} (kd_x : sj_kd S x = some 6) (ho : sj_ou S o) (v0 : Int32) (v1 : Int32) {r : Int32} {P : sj_St → Prop} (hc : sj_Ctr l mX6_oath [.ref x, .int v0, .int v1] S (fun v T => v = some (.int r) ∧ P T)) (hk : ∀ T, P T → sj_ou T o) : sj_CtW l mL_oath [(0, 10, 13, 13)] [.ref x, .int v0, .int v1, .ref o] S (fun v T => v = some (.int 0) ∧ ∃ T0, P T0 ∧ T = sj_wLa T0 o 0 (r.toInt64)) := by
  refine sj_startW ([some (.ref x), some (.int v0), some (.int v1), some (.ref o), none]) (by decide +kernel) rfl rfl (fun X hX C hR hH => ?_)
  subst hX
  refine sj_aload_n C 1 rfl dL_oath_0 rfl rfl ?_
  refine sj_iconstv C (0) 2 rfl dL_oath_1 rfl ?_
  refine sj_aload_n C 3 rfl dL_oath_2 rfl rfl ?_
  refine sj_iload_n C 4 rfl dL_oath_3 rfl rfl ?_
  refine sj_iload_n C 5 rfl dL_oath_4 rfl rfl ?_
  refine sj_callV C 8 rfl dL_oath_5 cv_L_65 rfl (hc) rfl rfl rfl ⟨_, _, kd_x, rfl, rfl, by decide⟩ (fun v_5 S_5 hp_5 => ?_)
  obtain ⟨rfl, hp⟩ := hp_5
  have ho2 := hk S_5 hp
  have kd_o := ho2.1
  refine sj_i2l C 9 rfl dL_oath_8 ?_
  refine sj_last C 10 rfl dL_oath_9 kd_o (sj_ou_in ho2) ?_
  refine sj_goto C 17 rfl dL_oath_10 ?_
  refine sj_iconstv C (0) 18 rfl dL_oath_17 rfl ?_
  refine sj_iret C hR rfl rfl dL_oath_18 ?_
  exact ⟨rfl, _, hp, rfl⟩
set_option maxRecDepth 100000 in
set_option maxHeartbeats 100000 in
theorem ct_L_oath_1 (l : Launch) {S : sj_St} {x o : Nat} (kd_x : sj_kd S x = some 6) (ho : sj_ou S o) (v0 : Int32) (v1 : Int32) {P : sj_St → Prop} (hc : sj_CtX l mX6_oath [.ref x, .int v0, .int v1] S "java/lang/IllegalArgumentException" P) : sj_CtW l mL_oath [(0, 10, 13, 13)] [.ref x, .int v0, .int v1, .ref o] S (fun v T => v = some (.int 1) ∧ P T) := by
  refine sj_startW ([some (.ref x), some (.int v0), some (.int v1), some (.ref o), none]) (by decide +kernel) rfl rfl (fun X hX C hR hH => ?_)
  subst hX
  refine sj_aload_n C 1 rfl dL_oath_0 rfl rfl ?_
  refine sj_iconstv C (0) 2 rfl dL_oath_1 rfl ?_
  refine sj_aload_n C 3 rfl dL_oath_2 rfl rfl ?_
  refine sj_iload_n C 4 rfl dL_oath_3 rfl rfl ?_
  refine sj_iload_n C 5 rfl dL_oath_4 rfl rfl ?_
  refine sj_callX C hH ((tableOf [(0, 10, 13, 13)]).take 0) ((tableOf [(0, 10, 13, 13)])[0]'(by decide)) ((tableOf [(0, 10, 13, 13)]).drop 1) rfl dL_oath_5 cv_L_65 rfl hc rfl rfl rfl ⟨_, _, kd_x, rfl, rfl, by decide⟩ (fun U h3 z hz => by cases hz) rfl (by decide) (wr_6 _ (List.mem_of_getElem? (i := 8) (by decide +kernel))) sj_cs_13 (fun q9 S9 hp => ?_)
  refine sj_astore_4 C 15 rfl dL_oath_13 rfl rfl ?_
  refine sj_iconstv C (1) 16 rfl dL_oath_15 rfl ?_
  refine sj_iret C hR rfl rfl dL_oath_16 ?_
  exact ⟨rfl, hp⟩
set_option maxRecDepth 100000 in
set_option maxHeartbeats 100000 in
theorem ct_L_count_r (l : Launch) {S : sj_St} {x o : Nat} (kd_x : sj_kd S x = some 6) (ho : sj_ou S o) (v0 : Int32) {r : Int32} {P : sj_St → Prop} (hc : sj_Ctr l mX6_count [.ref x, .int v0] S (fun v T => v = some (.int r) ∧ P T)) (hk : ∀ T, P T → sj_ou T o) : sj_CtW l mL_count [(0, 9, 12, 13)] [.ref x, .int v0, .ref o] S (fun v T => v = some (.int 0) ∧ ∃ T0, P T0 ∧ T = sj_wLa T0 o 0 (r.toInt64)) := by
  refine sj_startW ([some (.ref x), some (.int v0), some (.ref o), none]) (by decide +kernel) rfl rfl (fun X hX C hR hH => ?_)
  subst hX
  refine sj_aload_n C 1 rfl dL_count_0 rfl rfl ?_
  refine sj_iconstv C (0) 2 rfl dL_count_1 rfl ?_
  refine sj_aload_n C 3 rfl dL_count_2 rfl rfl ?_
  refine sj_iload_n C 4 rfl dL_count_3 rfl rfl ?_
  refine sj_callV C 7 rfl dL_count_4 cv_L_68 rfl (hc) rfl rfl rfl ⟨_, _, kd_x, rfl, rfl, by decide⟩ (fun v_4 S_4 hp_4 => ?_)
  obtain ⟨rfl, hp⟩ := hp_4
  have ho2 := hk S_4 hp
  have kd_o := ho2.1
  refine sj_i2l C 8 rfl dL_count_7 ?_
  refine sj_last C 9 rfl dL_count_8 kd_o (sj_ou_in ho2) ?_
  refine sj_goto C 15 rfl dL_count_9 ?_
  refine sj_iconstv C (0) 16 rfl dL_count_15 rfl ?_
  refine sj_iret C hR rfl rfl dL_count_16 ?_
  exact ⟨rfl, _, hp, rfl⟩
set_option maxRecDepth 100000 in
set_option maxHeartbeats 100000 in
theorem ct_L_count_1 (l : Launch) {S : sj_St} {x o : Nat} (kd_x : sj_kd S x = some 6) (ho : sj_ou S o) (v0 : Int32) {P : sj_St → Prop} (hc : sj_CtX l mX6_count [.ref x, .int v0] S "java/lang/IllegalArgumentException" P) : sj_CtW l mL_count [(0, 9, 12, 13)] [.ref x, .int v0, .ref o] S (fun v T => v = some (.int 1) ∧ P T) := by
  refine sj_startW ([some (.ref x), some (.int v0), some (.ref o), none]) (by decide +kernel) rfl rfl (fun X hX C hR hH => ?_)
  subst hX
  refine sj_aload_n C 1 rfl dL_count_0 rfl rfl ?_
  refine sj_iconstv C (0) 2 rfl dL_count_1 rfl ?_
  refine sj_aload_n C 3 rfl dL_count_2 rfl rfl ?_
  refine sj_iload_n C 4 rfl dL_count_3 rfl rfl ?_
  refine sj_callX C hH ((tableOf [(0, 9, 12, 13)]).take 0) ((tableOf [(0, 9, 12, 13)])[0]'(by decide)) ((tableOf [(0, 9, 12, 13)]).drop 1) rfl dL_count_4 cv_L_68 rfl hc rfl rfl rfl ⟨_, _, kd_x, rfl, rfl, by decide⟩ (fun U h3 z hz => by cases hz) rfl (by decide) (wr_6 _ (List.mem_of_getElem? (i := 8) (by decide +kernel))) sj_cs_13 (fun q9 S9 hp => ?_)
  refine sj_astore_n_3 C 13 rfl dL_count_12 rfl rfl ?_
  refine sj_iconstv C (1) 14 rfl dL_count_13 rfl ?_
  refine sj_iret C hR rfl rfl dL_count_14 ?_
  exact ⟨rfl, hp⟩
set_option maxRecDepth 100000 in
set_option maxHeartbeats 100000 in
theorem ct_L_whyNot_r (l : Launch) {S : sj_St} {x o : Nat} (kd_x : sj_kd S x = some 6) (ho : sj_ou S o) (v0 : Int32) (v1 : Int32) (v2 : Int32) {r : Int32} {P : sj_St → Prop} (hc : sj_Ctr l mX6_whyNot [.ref x, .int v0, .int v1, .int v2] S (fun v T => v = some (.int r) ∧ P T)) (hk : ∀ T, P T → sj_ou T o) : sj_CtW l mL_whyNot [(0, 12, 15, 20)] [.ref x, .int v0, .int v1, .int v2, .ref o] S (fun v T => v = some (.int 0) ∧ ∃ T0, P T0 ∧ T = sj_wLa T0 o 0 (r.toInt64)) := by
  refine sj_startW ([some (.ref x), some (.int v0), some (.int v1), some (.int v2), some (.ref o), none]) (by decide +kernel) rfl rfl (fun X hX C hR hH => ?_)
  subst hX
  refine sj_aload C 2 rfl dL_whyNot_0 rfl ?_
  refine sj_iconstv C (0) 3 rfl dL_whyNot_2 rfl ?_
  refine sj_aload_n C 4 rfl dL_whyNot_3 rfl rfl ?_
  refine sj_iload_n C 5 rfl dL_whyNot_4 rfl rfl ?_
  refine sj_iload_n C 6 rfl dL_whyNot_5 rfl rfl ?_
  refine sj_iload_n C 7 rfl dL_whyNot_6 rfl rfl ?_
  refine sj_callV C 10 rfl dL_whyNot_7 cv_L_71 rfl (hc) rfl rfl rfl ⟨_, _, kd_x, rfl, rfl, by decide⟩ (fun v_7 S_7 hp_7 => ?_)
  obtain ⟨rfl, hp⟩ := hp_7
  have ho2 := hk S_7 hp
  have kd_o := ho2.1
  refine sj_i2l C 11 rfl dL_whyNot_10 ?_
  refine sj_last C 12 rfl dL_whyNot_11 kd_o (sj_ou_in ho2) ?_
  refine sj_goto C 19 rfl dL_whyNot_12 ?_
  refine sj_iconstv C (0) 20 rfl dL_whyNot_19 rfl ?_
  refine sj_iret C hR rfl rfl dL_whyNot_20 ?_
  exact ⟨rfl, _, hp, rfl⟩
set_option maxRecDepth 100000 in
set_option maxHeartbeats 100000 in
theorem ct_L_whyNot_1 (l : Launch) {S : sj_St} {x o : Nat} (kd_x : sj_kd S x = some 6) (ho : sj_ou S o) (v0 : Int32) (v1 : Int32) (v2 : Int32) {P : sj_St → Prop} (hc : sj_CtX l mX6_whyNot [.ref x, .int v0, .int v1, .int v2] S "java/lang/IndexOutOfBoundsException" P) : sj_CtW l mL_whyNot [(0, 12, 15, 20)] [.ref x, .int v0, .int v1, .int v2, .ref o] S (fun v T => v = some (.int 1) ∧ P T) := by
  refine sj_startW ([some (.ref x), some (.int v0), some (.int v1), some (.int v2), some (.ref o), none]) (by decide +kernel) rfl rfl (fun X hX C hR hH => ?_)
  subst hX
  refine sj_aload C 2 rfl dL_whyNot_0 rfl ?_
  refine sj_iconstv C (0) 3 rfl dL_whyNot_2 rfl ?_
  refine sj_aload_n C 4 rfl dL_whyNot_3 rfl rfl ?_
  refine sj_iload_n C 5 rfl dL_whyNot_4 rfl rfl ?_
  refine sj_iload_n C 6 rfl dL_whyNot_5 rfl rfl ?_
  refine sj_iload_n C 7 rfl dL_whyNot_6 rfl rfl ?_
  refine sj_callX C hH ((tableOf [(0, 12, 15, 20)]).take 0) ((tableOf [(0, 12, 15, 20)])[0]'(by decide)) ((tableOf [(0, 12, 15, 20)]).drop 1) rfl dL_whyNot_7 cv_L_71 rfl hc rfl rfl rfl ⟨_, _, kd_x, rfl, rfl, by decide⟩ (fun U h3 z hz => by cases hz) rfl (by decide) (wr_13 _ (List.mem_of_getElem? (i := 16) (by decide +kernel))) sj_cs_20 (fun q9 S9 hp => ?_)
  refine sj_astore_5 C 17 rfl dL_whyNot_15 rfl rfl ?_
  refine sj_iconstv C (1) 18 rfl dL_whyNot_17 rfl ?_
  refine sj_iret C hR rfl rfl dL_whyNot_18 ?_
  exact ⟨rfl, hp⟩
set_option maxRecDepth 100000 in
set_option maxHeartbeats 100000 in
theorem ct_L_nearest_r (l : Launch) {S : sj_St} {x o : Nat} (kd_x : sj_kd S x = some 6) (ho : sj_ou S o) (v0 : Int32) {r : Int32} {P : sj_St → Prop} (hc : sj_Ctr l mX6_nearest [.ref x, .int v0] S (fun v T => v = some (.int r) ∧ P T)) (hk : ∀ T, P T → sj_ou T o) : sj_CtW l mL_nearest [(0, 9, 12, 20)] [.ref x, .int v0, .ref o] S (fun v T => v = some (.int 0) ∧ ∃ T0, P T0 ∧ T = sj_wLa T0 o 0 (r.toInt64)) := by
  refine sj_startW ([some (.ref x), some (.int v0), some (.ref o), none]) (by decide +kernel) rfl rfl (fun X hX C hR hH => ?_)
  subst hX
  refine sj_aload_n C 1 rfl dL_nearest_0 rfl rfl ?_
  refine sj_iconstv C (0) 2 rfl dL_nearest_1 rfl ?_
  refine sj_aload_n C 3 rfl dL_nearest_2 rfl rfl ?_
  refine sj_iload_n C 4 rfl dL_nearest_3 rfl rfl ?_
  refine sj_callV C 7 rfl dL_nearest_4 cv_L_74 rfl (hc) rfl rfl rfl ⟨_, _, kd_x, rfl, rfl, by decide⟩ (fun v_4 S_4 hp_4 => ?_)
  obtain ⟨rfl, hp⟩ := hp_4
  have ho2 := hk S_4 hp
  have kd_o := ho2.1
  refine sj_i2l C 8 rfl dL_nearest_7 ?_
  refine sj_last C 9 rfl dL_nearest_8 kd_o (sj_ou_in ho2) ?_
  refine sj_goto C 15 rfl dL_nearest_9 ?_
  refine sj_iconstv C (0) 16 rfl dL_nearest_15 rfl ?_
  refine sj_iret C hR rfl rfl dL_nearest_16 ?_
  exact ⟨rfl, _, hp, rfl⟩
set_option maxRecDepth 100000 in
set_option maxHeartbeats 100000 in
theorem ct_L_nearest_1 (l : Launch) {S : sj_St} {x o : Nat} (kd_x : sj_kd S x = some 6) (ho : sj_ou S o) (v0 : Int32) {P : sj_St → Prop} (hc : sj_CtX l mX6_nearest [.ref x, .int v0] S "java/lang/IndexOutOfBoundsException" P) : sj_CtW l mL_nearest [(0, 9, 12, 20)] [.ref x, .int v0, .ref o] S (fun v T => v = some (.int 1) ∧ P T) := by
  refine sj_startW ([some (.ref x), some (.int v0), some (.ref o), none]) (by decide +kernel) rfl rfl (fun X hX C hR hH => ?_)
  subst hX
  refine sj_aload_n C 1 rfl dL_nearest_0 rfl rfl ?_
  refine sj_iconstv C (0) 2 rfl dL_nearest_1 rfl ?_
  refine sj_aload_n C 3 rfl dL_nearest_2 rfl rfl ?_
  refine sj_iload_n C 4 rfl dL_nearest_3 rfl rfl ?_
  refine sj_callX C hH ((tableOf [(0, 9, 12, 20)]).take 0) ((tableOf [(0, 9, 12, 20)])[0]'(by decide)) ((tableOf [(0, 9, 12, 20)]).drop 1) rfl dL_nearest_4 cv_L_74 rfl hc rfl rfl rfl ⟨_, _, kd_x, rfl, rfl, by decide⟩ (fun U h3 z hz => by cases hz) rfl (by decide) (wr_13 _ (List.mem_of_getElem? (i := 16) (by decide +kernel))) sj_cs_20 (fun q9 S9 hp => ?_)
  refine sj_astore_n_3 C 13 rfl dL_nearest_12 rfl rfl ?_
  refine sj_iconstv C (1) 14 rfl dL_nearest_13 rfl ?_
  refine sj_iret C hR rfl rfl dL_nearest_14 ?_
  exact ⟨rfl, hp⟩
set_option maxRecDepth 100000 in
set_option maxHeartbeats 100000 in
theorem ct_L_toleranceFor_r (l : Launch) {S : sj_St} {x o : Nat} (kd_x : sj_kd S x = some 6) (ho : sj_ou S o) (v0 : Int32) (v1 : Int32) (v2 : Int32) {r : Int32} {P : sj_St → Prop} (hc : sj_Ctr l mX6_toleranceFor [.ref x, .int v0, .int v1, .int v2] S (fun v T => v = some (.int r) ∧ P T)) (hk : ∀ T, P T → sj_ou T o) : sj_CtW l mL_toleranceFor [(0, 12, 15, 20), (0, 12, 19, 13)] [.ref x, .int v0, .int v1, .int v2, .ref o] S (fun v T => v = some (.int 0) ∧ ∃ T0, P T0 ∧ T = sj_wLa T0 o 0 (r.toInt64)) := by
  refine sj_startW ([some (.ref x), some (.int v0), some (.int v1), some (.int v2), some (.ref o), none]) (by decide +kernel) rfl rfl (fun X hX C hR hH => ?_)
  subst hX
  refine sj_aload C 2 rfl dL_toleranceFor_0 rfl ?_
  refine sj_iconstv C (0) 3 rfl dL_toleranceFor_2 rfl ?_
  refine sj_aload_n C 4 rfl dL_toleranceFor_3 rfl rfl ?_
  refine sj_iload_n C 5 rfl dL_toleranceFor_4 rfl rfl ?_
  refine sj_iload_n C 6 rfl dL_toleranceFor_5 rfl rfl ?_
  refine sj_iload_n C 7 rfl dL_toleranceFor_6 rfl rfl ?_
  refine sj_callV C 10 rfl dL_toleranceFor_7 cv_L_77 rfl (hc) rfl rfl rfl ⟨_, _, kd_x, rfl, rfl, by decide⟩ (fun v_7 S_7 hp_7 => ?_)
  obtain ⟨rfl, hp⟩ := hp_7
  have ho2 := hk S_7 hp
  have kd_o := ho2.1
  refine sj_i2l C 11 rfl dL_toleranceFor_10 ?_
  refine sj_last C 12 rfl dL_toleranceFor_11 kd_o (sj_ou_in ho2) ?_
  refine sj_goto C 23 rfl dL_toleranceFor_12 ?_
  refine sj_iconstv C (0) 24 rfl dL_toleranceFor_23 rfl ?_
  refine sj_iret C hR rfl rfl dL_toleranceFor_24 ?_
  exact ⟨rfl, _, hp, rfl⟩
set_option maxRecDepth 100000 in
set_option maxHeartbeats 100000 in
theorem ct_L_toleranceFor_1 (l : Launch) {S : sj_St} {x o : Nat} (kd_x : sj_kd S x = some 6) (ho : sj_ou S o) (v0 : Int32) (v1 : Int32) (v2 : Int32) {P : sj_St → Prop} (hc : sj_CtX l mX6_toleranceFor [.ref x, .int v0, .int v1, .int v2] S "java/lang/IndexOutOfBoundsException" P) : sj_CtW l mL_toleranceFor [(0, 12, 15, 20), (0, 12, 19, 13)] [.ref x, .int v0, .int v1, .int v2, .ref o] S (fun v T => v = some (.int 1) ∧ P T) := by
  refine sj_startW ([some (.ref x), some (.int v0), some (.int v1), some (.int v2), some (.ref o), none]) (by decide +kernel) rfl rfl (fun X hX C hR hH => ?_)
  subst hX
  refine sj_aload C 2 rfl dL_toleranceFor_0 rfl ?_
  refine sj_iconstv C (0) 3 rfl dL_toleranceFor_2 rfl ?_
  refine sj_aload_n C 4 rfl dL_toleranceFor_3 rfl rfl ?_
  refine sj_iload_n C 5 rfl dL_toleranceFor_4 rfl rfl ?_
  refine sj_iload_n C 6 rfl dL_toleranceFor_5 rfl rfl ?_
  refine sj_iload_n C 7 rfl dL_toleranceFor_6 rfl rfl ?_
  refine sj_callX C hH ((tableOf [(0, 12, 15, 20), (0, 12, 19, 13)]).take 0) ((tableOf [(0, 12, 15, 20), (0, 12, 19, 13)])[0]'(by decide)) ((tableOf [(0, 12, 15, 20), (0, 12, 19, 13)]).drop 1) rfl dL_toleranceFor_7 cv_L_77 rfl hc rfl rfl rfl ⟨_, _, kd_x, rfl, rfl, by decide⟩ (fun U h3 z hz => by cases hz) rfl (by decide) (wr_13 _ (List.mem_of_getElem? (i := 16) (by decide +kernel))) sj_cs_20 (fun q9 S9 hp => ?_)
  refine sj_astore_5 C 17 rfl dL_toleranceFor_15 rfl rfl ?_
  refine sj_iconstv C (1) 18 rfl dL_toleranceFor_17 rfl ?_
  refine sj_iret C hR rfl rfl dL_toleranceFor_18 ?_
  exact ⟨rfl, hp⟩
set_option maxRecDepth 100000 in
set_option maxHeartbeats 100000 in
theorem ct_L_toleranceFor_2 (l : Launch) {S : sj_St} {x o : Nat} (kd_x : sj_kd S x = some 6) (ho : sj_ou S o) (v0 : Int32) (v1 : Int32) (v2 : Int32) {P : sj_St → Prop} (hc : sj_CtX l mX6_toleranceFor [.ref x, .int v0, .int v1, .int v2] S "java/lang/IllegalArgumentException" P) : sj_CtW l mL_toleranceFor [(0, 12, 15, 20), (0, 12, 19, 13)] [.ref x, .int v0, .int v1, .int v2, .ref o] S (fun v T => v = some (.int 2) ∧ P T) := by
  refine sj_startW ([some (.ref x), some (.int v0), some (.int v1), some (.int v2), some (.ref o), none]) (by decide +kernel) rfl rfl (fun X hX C hR hH => ?_)
  subst hX
  refine sj_aload C 2 rfl dL_toleranceFor_0 rfl ?_
  refine sj_iconstv C (0) 3 rfl dL_toleranceFor_2 rfl ?_
  refine sj_aload_n C 4 rfl dL_toleranceFor_3 rfl rfl ?_
  refine sj_iload_n C 5 rfl dL_toleranceFor_4 rfl rfl ?_
  refine sj_iload_n C 6 rfl dL_toleranceFor_5 rfl rfl ?_
  refine sj_iload_n C 7 rfl dL_toleranceFor_6 rfl rfl ?_
  refine sj_callX C hH ((tableOf [(0, 12, 15, 20), (0, 12, 19, 13)]).take 1) ((tableOf [(0, 12, 15, 20), (0, 12, 19, 13)])[1]'(by decide)) ((tableOf [(0, 12, 15, 20), (0, 12, 19, 13)]).drop 2) rfl dL_toleranceFor_7 cv_L_77 rfl hc rfl rfl rfl ⟨_, _, kd_x, rfl, rfl, by decide⟩ (fun U h3 z hz => Or.inr (by rw [List.mem_singleton.mp (show z ∈ [(tableOf [(0, 12, 15, 20), (0, 12, 19, 13)])[0]'(by decide)] from hz)]; exact ⟨by decide, _, wr_13 _ (List.mem_of_getElem? (i := 16) (by decide +kernel)), h3.2.1⟩)) rfl (by decide) (wr_6 _ (List.mem_of_getElem? (i := 8) (by decide +kernel))) sj_cs_13 (fun q9 S9 hp => ?_)
  refine sj_astore_5 C 21 rfl dL_toleranceFor_19 rfl rfl ?_
  refine sj_iconstv C (2) 22 rfl dL_toleranceFor_21 rfl ?_
  refine sj_iret C hR rfl rfl dL_toleranceFor_22 ?_
  exact ⟨rfl, hp⟩
set_option maxRecDepth 100000 in
set_option maxHeartbeats 100000 in
theorem ct_L_ifPassed_r (l : Launch) {S : sj_St} {x o : Nat} (kd_x : sj_kd S x = some 6) (ho : sj_ou S o) (v0 : Int32) (v1 : Int32) (v2 : Int32) {r : Int32} {P : sj_St → Prop} (hc : sj_Ctr l mX6_ifPassed [.ref x, .int v0, .int v1, .int v2] S (fun v T => v = some (.int r) ∧ P T)) (hk : ∀ T, P T → sj_ou T o) : sj_CtW l mL_ifPassed [(0, 12, 15, 20), (0, 12, 19, 13)] [.ref x, .int v0, .int v1, .int v2, .ref o] S (fun v T => v = some (.int 0) ∧ ∃ T0, P T0 ∧ T = sj_wLa T0 o 0 (r.toInt64)) := by
  refine sj_startW ([some (.ref x), some (.int v0), some (.int v1), some (.int v2), some (.ref o), none]) (by decide +kernel) rfl rfl (fun X hX C hR hH => ?_)
  subst hX
  refine sj_aload C 2 rfl dL_ifPassed_0 rfl ?_
  refine sj_iconstv C (0) 3 rfl dL_ifPassed_2 rfl ?_
  refine sj_aload_n C 4 rfl dL_ifPassed_3 rfl rfl ?_
  refine sj_iload_n C 5 rfl dL_ifPassed_4 rfl rfl ?_
  refine sj_iload_n C 6 rfl dL_ifPassed_5 rfl rfl ?_
  refine sj_iload_n C 7 rfl dL_ifPassed_6 rfl rfl ?_
  refine sj_callV C 10 rfl dL_ifPassed_7 cv_L_80 rfl (hc) rfl rfl rfl ⟨_, _, kd_x, rfl, rfl, by decide⟩ (fun v_7 S_7 hp_7 => ?_)
  obtain ⟨rfl, hp⟩ := hp_7
  have ho2 := hk S_7 hp
  have kd_o := ho2.1
  refine sj_i2l C 11 rfl dL_ifPassed_10 ?_
  refine sj_last C 12 rfl dL_ifPassed_11 kd_o (sj_ou_in ho2) ?_
  refine sj_goto C 23 rfl dL_ifPassed_12 ?_
  refine sj_iconstv C (0) 24 rfl dL_ifPassed_23 rfl ?_
  refine sj_iret C hR rfl rfl dL_ifPassed_24 ?_
  exact ⟨rfl, _, hp, rfl⟩
set_option maxRecDepth 100000 in
set_option maxHeartbeats 100000 in
theorem ct_L_ifPassed_1 (l : Launch) {S : sj_St} {x o : Nat} (kd_x : sj_kd S x = some 6) (ho : sj_ou S o) (v0 : Int32) (v1 : Int32) (v2 : Int32) {P : sj_St → Prop} (hc : sj_CtX l mX6_ifPassed [.ref x, .int v0, .int v1, .int v2] S "java/lang/IndexOutOfBoundsException" P) : sj_CtW l mL_ifPassed [(0, 12, 15, 20), (0, 12, 19, 13)] [.ref x, .int v0, .int v1, .int v2, .ref o] S (fun v T => v = some (.int 1) ∧ P T) := by
  refine sj_startW ([some (.ref x), some (.int v0), some (.int v1), some (.int v2), some (.ref o), none]) (by decide +kernel) rfl rfl (fun X hX C hR hH => ?_)
  subst hX
  refine sj_aload C 2 rfl dL_ifPassed_0 rfl ?_
  refine sj_iconstv C (0) 3 rfl dL_ifPassed_2 rfl ?_
  refine sj_aload_n C 4 rfl dL_ifPassed_3 rfl rfl ?_
  refine sj_iload_n C 5 rfl dL_ifPassed_4 rfl rfl ?_
  refine sj_iload_n C 6 rfl dL_ifPassed_5 rfl rfl ?_
  refine sj_iload_n C 7 rfl dL_ifPassed_6 rfl rfl ?_
  refine sj_callX C hH ((tableOf [(0, 12, 15, 20), (0, 12, 19, 13)]).take 0) ((tableOf [(0, 12, 15, 20), (0, 12, 19, 13)])[0]'(by decide)) ((tableOf [(0, 12, 15, 20), (0, 12, 19, 13)]).drop 1) rfl dL_ifPassed_7 cv_L_80 rfl hc rfl rfl rfl ⟨_, _, kd_x, rfl, rfl, by decide⟩ (fun U h3 z hz => by cases hz) rfl (by decide) (wr_13 _ (List.mem_of_getElem? (i := 16) (by decide +kernel))) sj_cs_20 (fun q9 S9 hp => ?_)
  refine sj_astore_5 C 17 rfl dL_ifPassed_15 rfl rfl ?_
  refine sj_iconstv C (1) 18 rfl dL_ifPassed_17 rfl ?_
  refine sj_iret C hR rfl rfl dL_ifPassed_18 ?_
  exact ⟨rfl, hp⟩
set_option maxRecDepth 100000 in
set_option maxHeartbeats 100000 in
theorem ct_L_ifPassed_2 (l : Launch) {S : sj_St} {x o : Nat} (kd_x : sj_kd S x = some 6) (ho : sj_ou S o) (v0 : Int32) (v1 : Int32) (v2 : Int32) {P : sj_St → Prop} (hc : sj_CtX l mX6_ifPassed [.ref x, .int v0, .int v1, .int v2] S "java/lang/IllegalArgumentException" P) : sj_CtW l mL_ifPassed [(0, 12, 15, 20), (0, 12, 19, 13)] [.ref x, .int v0, .int v1, .int v2, .ref o] S (fun v T => v = some (.int 2) ∧ P T) := by
  refine sj_startW ([some (.ref x), some (.int v0), some (.int v1), some (.int v2), some (.ref o), none]) (by decide +kernel) rfl rfl (fun X hX C hR hH => ?_)
  subst hX
  refine sj_aload C 2 rfl dL_ifPassed_0 rfl ?_
  refine sj_iconstv C (0) 3 rfl dL_ifPassed_2 rfl ?_
  refine sj_aload_n C 4 rfl dL_ifPassed_3 rfl rfl ?_
  refine sj_iload_n C 5 rfl dL_ifPassed_4 rfl rfl ?_
  refine sj_iload_n C 6 rfl dL_ifPassed_5 rfl rfl ?_
  refine sj_iload_n C 7 rfl dL_ifPassed_6 rfl rfl ?_
  refine sj_callX C hH ((tableOf [(0, 12, 15, 20), (0, 12, 19, 13)]).take 1) ((tableOf [(0, 12, 15, 20), (0, 12, 19, 13)])[1]'(by decide)) ((tableOf [(0, 12, 15, 20), (0, 12, 19, 13)]).drop 2) rfl dL_ifPassed_7 cv_L_80 rfl hc rfl rfl rfl ⟨_, _, kd_x, rfl, rfl, by decide⟩ (fun U h3 z hz => Or.inr (by rw [List.mem_singleton.mp (show z ∈ [(tableOf [(0, 12, 15, 20), (0, 12, 19, 13)])[0]'(by decide)] from hz)]; exact ⟨by decide, _, wr_13 _ (List.mem_of_getElem? (i := 16) (by decide +kernel)), h3.2.1⟩)) rfl (by decide) (wr_6 _ (List.mem_of_getElem? (i := 8) (by decide +kernel))) sj_cs_13 (fun q9 S9 hp => ?_)
  refine sj_astore_5 C 21 rfl dL_ifPassed_19 rfl rfl ?_
  refine sj_iconstv C (2) 22 rfl dL_ifPassed_21 rfl ?_
  refine sj_iret C hR rfl rfl dL_ifPassed_22 ?_
  exact ⟨rfl, hp⟩
