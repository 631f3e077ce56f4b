/-! THE GROUND: a method's heap as functions of addresses (what kind each cell is, what its fields and its rows hold), a judgement over it, and a rule for each instruction. -/
-- a state: kinds, reference fields, lengths, int fields, int rows, rows of references, long fields, long rows
abbrev sj_St : Type := (Nat → Option Nat) × (Nat → Nat → Option Nat) × (Nat → Nat) × (Nat → Nat → Int32) × (Nat → Nat → Int32) × (Nat → Nat → Option Nat) × (Nat → Int64) × (Nat → Nat → Int64)
def sj_kd (S : sj_St) : Nat → Option Nat := S.1
def sj_rf (S : sj_St) : Nat → Nat → Option Nat := S.2.1
def sj_il (S : sj_St) : Nat → Nat := S.2.2.1
def sj_fi (S : sj_St) : Nat → Nat → Int32 := S.2.2.2.1
def sj_ia (S : sj_St) : Nat → Nat → Int32 := S.2.2.2.2.1
def sj_ra (S : sj_St) : Nat → Nat → Option Nat := S.2.2.2.2.2.1
def sj_fl (S : sj_St) : Nat → Int64 := S.2.2.2.2.2.2.1
def sj_la (S : sj_St) : Nat → Nat → Int64 := S.2.2.2.2.2.2.2
def sj_up {α : Type} (f : Nat → α) (a : Nat) (v : α) : Nat → α := fun q => if q = a then v else f q
theorem sj_up_self {α : Type} (f : Nat → α) (a : Nat) (v : α) : sj_up f a v a = v := if_pos rfl
theorem sj_up_ne {α : Type} (f : Nat → α) {a q : Nat} (v : α) (h : q ≠ a) : sj_up f a v q = f q := if_neg h
def sj_wFi (S : sj_St) (a k : Nat) (v : Int32) : sj_St := (S.1, S.2.1, S.2.2.1, sj_up S.2.2.2.1 a (sj_up (S.2.2.2.1 a) k v), S.2.2.2.2)
def sj_wFl (S : sj_St) (a : Nat) (v : Int64) : sj_St := (S.1, S.2.1, S.2.2.1, S.2.2.2.1, S.2.2.2.2.1, S.2.2.2.2.2.1, sj_up S.2.2.2.2.2.2.1 a v, S.2.2.2.2.2.2.2)
def sj_wRf (S : sj_St) (a k : Nat) (v : Option Nat) : sj_St := (S.1, sj_up S.2.1 a (sj_up (S.2.1 a) k v), S.2.2)
def sj_wIa (S : sj_St) (a k : Nat) (v : Int32) : sj_St := (S.1, S.2.1, S.2.2.1, S.2.2.2.1, sj_up S.2.2.2.2.1 a (upd (S.2.2.2.2.1 a) k v), S.2.2.2.2.2)
def sj_wRa (S : sj_St) (a k : Nat) (v : Option Nat) : sj_St := (S.1, S.2.1, S.2.2.1, S.2.2.2.1, S.2.2.2.2.1, sj_up S.2.2.2.2.2.1 a (va_up (S.2.2.2.2.2.1 a) k v), S.2.2.2.2.2.2)
def sj_wLa (S : sj_St) (a k : Nat) (v : Int64) : sj_St := (S.1, S.2.1, S.2.2.1, S.2.2.2.1, S.2.2.2.2.1, S.2.2.2.2.2.1, S.2.2.2.2.2.2.1, sj_up S.2.2.2.2.2.2.2 a (vp_updL (S.2.2.2.2.2.2.2 a) k v))
-- the types of the fields by kind: 0 int or boolean, 1 reference, 2 long
def sj_tyl : Nat → List Nat
  | 0 => [1, 0, 0]
  | 1 => [0, 0, 1, 1, 1, 1]
  | 2 => [1]
  | 3 => [0, 1, 1]
  | 4 => [1, 1, 1, 0, 1, 1, 0, 0]
  | 5 => [1, 0, 0, 0, 1, 0, 1, 1, 1, 0]
  | 6 => [1, 1, 1, 1, 0]
  | 7 => [0, 1, 1, 1, 0, 1, 0, 1, 0, 0, 0, 0, 0, 1, 0, 1, 2]
  | _ => []
def sj_fv (S : sj_St) (a j : Nat) : Nat → Value
  | 0 => .int (sj_fi S a j)
  | 1 => va_rf (sj_rf S a j)
  | _ => .long (sj_fl S a)
def sj_fs (S : sj_St) (a : Nat) : Nat → List Nat → List Value
  | _, [] => []
  | j, t :: ts => sj_fv S a j t :: sj_fs S a (j + 1) ts
theorem sj_fs_len (S : sj_St) (a : Nat) : ∀ (l : List Nat) (j : Nat), (sj_fs S a j l).length = l.length
  | [], _ => rfl
  | _ :: ts, j => congrArg (· + 1) (sj_fs_len S a ts (j + 1))
theorem sj_fs_get (S : sj_St) (a : Nat) : ∀ (l : List Nat) (j k t : Nat), l[k]? = some t → (sj_fs S a j l)[k]? = some (sj_fv S a (j + k) t)
  | [], _, _, _, h => by simp at h
  | u :: us, j, 0, t, h => by
    have h1 : u = t := by simpa using h
    subst h1
    rfl
  | u :: us, j, k + 1, t, h => by
    have h1 : us[k]? = some t := by simpa using h
    have h2 := sj_fs_get S a us (j + 1) k t h1
    have h3 : j + 1 + k = j + (k + 1) := by omega
    rw [h3] at h2
    simpa [sj_fs] using h2
theorem sj_fs_congr {S S' : sj_St} {a : Nat} : ∀ (l : List Nat) (j : Nat), (∀ i t, l[i]? = some t → sj_fv S' a (j + i) t = sj_fv S a (j + i) t) → sj_fs S' a j l = sj_fs S a j l
  | [], _, _ => rfl
  | u :: us, j, h => by
    have h0 := h 0 u rfl
    have h1 := sj_fs_congr (S := S) (S' := S') (a := a) us (j + 1) (fun i t hi => by
      have h2 := h (i + 1) t (by simpa using hi)
      have h3 : j + 1 + i = j + (i + 1) := by omega
      rw [h3]; exact h2)
    show sj_fv S' a j u :: sj_fs S' a (j + 1) us = sj_fv S a j u :: sj_fs S a (j + 1) us
    rw [h1]
    exact congrArg (· :: _) h0
theorem sj_fs_set {S S' : sj_St} {a : Nat} : ∀ (l : List Nat) (j k : Nat) (v : Value), k < l.length → (∀ t, l[k]? = some t → sj_fv S' a (j + k) t = v) → (∀ i t, l[i]? = some t → i ≠ k → sj_fv S' a (j + i) t = sj_fv S a (j + i) t) → (sj_fs S a j l).set k v = sj_fs S' a j l
  | [], _, _, _, hk, _, _ => by simp at hk
  | u :: us, j, 0, v, _, hv, ho => by
    have h1 := sj_fs_congr (S := S) (S' := S') (a := a) us (j + 1) (fun i t hi => by
      have h2 := ho (i + 1) t (by simpa using hi) (by omega)
      have h3 : j + 1 + i = j + (i + 1) := by omega
      rw [h3]; exact h2)
    have h0 := hv u rfl
    show v :: sj_fs S a (j + 1) us = sj_fv S' a j u :: sj_fs S' a (j + 1) us
    rw [h1]
    exact congrArg (· :: _) h0.symm
  | u :: us, j, k + 1, v, hk, hv, ho => by
    have h1 := sj_fs_set (S := S) (S' := S') (a := a) us (j + 1) k v (by simpa using hk) (fun t ht => by
        have h2 := hv t (by simpa using ht)
        have h3 : j + 1 + k = j + (k + 1) := by omega
        rw [h3]; exact h2) (fun i t hi hne => by
        have h2 := ho (i + 1) t (by simpa using hi) (by omega)
        have h3 : j + 1 + i = j + (i + 1) := by omega
        rw [h3]; exact h2)
    have h0 := ho 0 u rfl (by omega)
    show sj_fv S a j u :: (sj_fs S a (j + 1) us).set k v = sj_fv S' a j u :: sj_fs S' a (j + 1) us
    rw [h1]
    exact congrArg (· :: _) h0.symm
def sj_ce (cy : Nat → ClassId) (S : sj_St) (a : Nat) : Nat → va_E
  | 8 => .inl (cy 0, sj_il S a, .inl (sj_ia S a))
  | 9 => .inl (cy 1, sj_il S a, .inr (.inr (.inr (.inr (sj_ra S a)))))
  | 10 => .inl (cy 2, sj_il S a, .inr (.inr (.inr (.inr (sj_ra S a)))))
  | 11 => .inl (cy 3, sj_il S a, .inr (.inl (sj_la S a)))
  | ci => .inr (ci, sj_fs S a 0 (sj_tyl ci))
theorem sj_ce_obj (cy : Nat → ClassId) (S : sj_St) (a : Nat) {ci : Nat} (h : ci < 8) : sj_ce cy S a ci = .inr (ci, sj_fs S a 0 (sj_tyl ci)) := by
  match ci, h with
  | 0, _ => rfl
  | 1, _ => rfl
  | 2, _ => rfl
  | 3, _ => rfl
  | 4, _ => rfl
  | 5, _ => rfl
  | 6, _ => rfl
  | 7, _ => rfl
def sj_WA (cy : Nat → ClassId) (S : sj_St) (ws : va_W) : Prop := ∀ a ci, sj_kd S a = some ci → ∃ q0 : Nat, ws[q0]? = some (a, sj_ce cy S a ci)
def sj_HP (D : va_G) (cy : Nat → ClassId) (A : Nat → Prop) (S : sj_St) (H : Heap) : Prop := ∃ ws : va_W, va_P D vwCl ws H ∧ va_D A ws ∧ sj_WA cy S ws
abbrev sj_tys (cy : Nat → ClassId) : List (ClassId × FieldType) := [(cy 0, .int), (cy 1, .object "SlantOaths$Sheet"), (cy 2, .object "SlantOaths$Table")]
/-- one cell is written -/
theorem sj_WA_set {cy : Nat → ClassId} {S S' : sj_St} {ws : va_W} {q0 a ci : Nat} {e : va_E} (h : sj_WA cy S ws) (hkd : sj_kd S' = sj_kd S) (hq : ws[q0]? = some (a, e)) (hk : sj_kd S a = some ci) (hs : ∀ b cj, b ≠ a → sj_ce cy S' b cj = sj_ce cy S b cj) : sj_WA cy S' (ws.set q0 (a, sj_ce cy S' a ci)) := by
  intro b cj hb
  rw [hkd] at hb
  by_cases hba : b = a
  · subst hba
    cases hb.symm.trans hk
    refine ⟨q0, ?_⟩
    rw [List.getElem?_set_self' , hq]
    rfl
  · obtain ⟨q1, h1⟩ := h b cj hb
    refine ⟨q1, ?_⟩
    have hne : q0 ≠ q1 := by
      intro hc
      subst hc
      rw [hq] at h1
      cases h1
      exact hba rfl
    rw [List.getElem?_set_ne hne, h1, hs b cj hba]
def sj_NWl : List Cond := [.fieldLinkNest "SlantOaths" 48 "SlantOaths$Table" "size" "I" "SlantOaths", .fieldLinkNest "SlantOaths" 63 "SlantOaths$Text" "strokes" "I" "SlantOaths", .fieldLinkNest "SlantOaths" 66 "SlantOaths$Text" "numbers" "LSlantOaths$Row;" "SlantOaths", .fieldLinkNest "SlantOaths" 109 "SlantOaths$Table" "settings" "LSlantOaths$Row;" "SlantOaths", .fieldLinkNest "SlantOaths" 131 "SlantOaths$Table" "oaths" "LSlantOaths$Oaths;" "SlantOaths", .fieldLinkNest "SlantOaths" 155 "SlantOaths$Text" "length" "I" "SlantOaths", .fieldLinkNest "SlantOaths" 187 "SlantOaths$History" "size" "I" "SlantOaths", .fieldLinkNest "SlantOaths" 225 "SlantOaths$Oaths" "size" "I" "SlantOaths", .fieldLinkNest "SlantOaths$Table" 50 "SlantOaths" "FIRST_SETTINGS" "[I" "SlantOaths", .fieldLinkNest "SlantOaths$Table" 95 "SlantOaths$Sheet" "strokes" "I" "SlantOaths", .fieldLinkNest "SlantOaths$Table" 114 "SlantOaths$Oaths" "size" "I" "SlantOaths", .fieldLinkNest "SlantOaths$Table" 128 "SlantOaths$Oaths" "sworn" "I" "SlantOaths", .fieldLinkNest "SlantOaths$Table" 163 "SlantOaths$Sheet" "marks" "LSlantOaths$Row;" "SlantOaths", .methodLinkNest "SlantOaths" 9 ⟨"SlantOaths$Text", "<init>", "()V"⟩ "SlantOaths", .methodLinkNest "SlantOaths$Table" 35 ⟨"SlantOaths$Oaths", "<init>", "()V"⟩ "SlantOaths", .methodLinkNest "SlantOaths$Table" 58 ⟨"SlantOaths$Oaths", "joinHands", "()V"⟩ "SlantOaths"]
def sj_nest : Cond → Bool
  | .fieldLinkNest .. => true
  | .methodLinkNest .. => true
  | _ => false
theorem sj_NWl_ok : sj_NWl.all sj_nest = true := by decide +kernel
def sj_NW (U : State) : Prop := ∀ w ∈ sj_NWl, va_Nw w U
theorem sj_NW_warm {s U : State} (hW : s.WarmedH U.vm) (h : sj_NW s) : sj_NW U := by
  intro w hw
  have h1 := List.all_eq_true.mp sj_NWl_ok w hw
  have h2 := h w hw
  cases w with
  | fieldLinkNest a b c d e f => exact va_Nw.warmF hW h2
  | methodLinkNest a b c d => exact va_Nw.warmM hW h2
  | _ => simp [sj_nest] at h1
theorem sj_NW_same {u U : State} (h : u.vm = U.vm) (hN : sj_NW u) : sj_NW U := by
  intro w hw
  have h1 := List.all_eq_true.mp sj_NWl_ok w hw
  have h2 := hN w hw
  cases w with
  | fieldLinkNest a b c d e f => exact va_Nw.same rfl h h2
  | methodLinkNest a b c d => exact va_Nw.same rfl h h2
  | _ => simp [sj_nest] at h1
def sj_t1 : Nat → Int32 := fun j => ([4, 10, 3, 20, 8, 6, 40, 2, 4] : List Int32).getD j 0
def sj_t2 : Nat → Int32 := fun j => ([50, 50, 50, 50, 50, 50, 99, 9, 6] : List Int32).getD j 0
/-- the two static rows of the class -/
def sj_ZS (A : Nat → Prop) (U : State) (H : Heap) : Prop := ∃ t1 t2 : Nat, va_Z "SlantOaths" "FIRST_SETTINGS" "[I" (.ref t1) A U H ∧ va_T .int t1 9 (fun j => .int (sj_t1 j)) A U H ∧ va_Z "SlantOaths" "MOST_OF_SETTING" "[I" (.ref t2) A U H ∧ va_T .int t2 9 (fun j => .int (sj_t2 j)) A U H
theorem sj_ZS_moved {A : Nat → Prop} {u U : State} {H : Heap} (hvm : u.vm.Alike U.vm) (h : sj_ZS A u H) : sj_ZS A U H := by
  obtain ⟨t1, t2, h1, h2, h3, h4⟩ := h
  exact ⟨t1, t2, h1.moved hvm, h2.moved hvm, h3.moved hvm, h4.moved hvm⟩
theorem sj_ZS_kept {A : Nat → Prop} {U : State} {H H1 : Heap} (h : sj_ZS A U H) (hq : ∀ a : Nat, a < H.size → ¬ A a → H1[a]? = H[a]?) : sj_ZS A U H1 := by
  obtain ⟨t1, t2, h1, h2, h3, h4⟩ := h
  exact ⟨t1, t2, h1.kept hq, h2.kept hq, h3.kept hq, h4.kept hq⟩
/-- the words of the three exceptions that no reader of steady words carries -/
def sj_XWl : List Cond := (vx_atS RX6 45 "java/lang/IllegalArgumentException" ["java/lang/RuntimeException", "java/lang/Exception"]).filter (fun w => !goodWord w) ++ ((vx_atS RX6 56 "java/lang/IllegalStateException" ["java/lang/RuntimeException", "java/lang/Exception"]).filter (fun w => !goodWord w) ++ (vx_atS RX6 91 "java/lang/IndexOutOfBoundsException" ["java/lang/RuntimeException", "java/lang/Exception"]).filter (fun w => !goodWord w))
def sj_dc : Cond → Bool
  | .declares .. => true
  | .castable .. => true
  | _ => false
theorem sj_XWl_ok : sj_XWl.all sj_dc = true := by decide +kernel
def sj_XW (U : State) : Prop := ∀ w ∈ sj_XWl, w.before #[] U = true
theorem sj_XW_moved {u U : State} (hvm : u.vm.Alike U.vm) (h : sj_XW u) : sj_XW U := by
  intro w hw
  have h1 := List.all_eq_true.mp sj_XWl_ok w hw
  have h2 := h w hw
  have tr : ∀ {c : Cond}, c.onTables = true → c.before #[] (u.setVm U.vm) = true → c.before #[] U = true := by
    intro c hc h
    have e := Cond.onTables_vm (A := #[]) (A' := #[]) (U := u) (U' := U) U.vm c hc
    have hU : U.setVm U.vm = U := rfl
    rw [hU] at e
    rw [← e]
    exact h
  cases w with
  | declares y => exact tr rfl (by rw [Cond.declares_setVm hvm]; exact h2)
  | castable a b => exact tr rfl (by rw [Cond.castable_setVm hvm]; exact h2)
  | _ => simp [sj_dc] at h1
/-- the texts of the exceptions -/
def sj_txl : List (Nat × String) := [(43, "no complete sheet in the buffer, or no such age"), (54, "the table is full"), (89, "no such sheet"), (96, "years are 1 to 99"), (105, "no such setting"), (107, "no such value of this setting"), (129, "this cannot be sworn"), (153, "character codes are 33 to 126"), (158, "the buffer is full"), (188, "no state is saved"), (198, "what is 0 to 6"), (203, "strokes are 0 to 7, what is 0 to 4"), (212, "marks are 0 to 5"), (217, "what is 0 to 4"), (223, "oaths are 0 or more, what is 0 to 3"), (229, "what is 0 to 17")]
def sj_TX (U : State) : Prop := ∀ t ∈ sj_txl, ∃ sa : Nat, vk_R RX6 t.1 t.2 sa U
def sj_N3 (U : State) : Prop := va_Nc "java/lang/IllegalStateException" "java/lang/IllegalArgumentException" U ∧ va_Nc "java/lang/IllegalArgumentException" "java/lang/IndexOutOfBoundsException" U ∧ va_Nc "java/lang/IllegalStateException" "java/lang/IndexOutOfBoundsException" U
theorem sj_N3_moved {u U : State} (hvm : u.vm.Alike U.vm) (h : sj_N3 u) : sj_N3 U := ⟨h.1.moved hvm, h.2.1.moved hvm, h.2.2.moved hvm⟩
/-- what the making of arrays, the throwing and the catching of exceptions want -/
def sj_XA (A : Nat → Prop) (U : State) (H : Heap) : Prop := sj_XW U ∧ (va_AO "SlantOaths$Sheet" U ∧ va_AO "SlantOaths$Table" U) ∧ sj_TX U ∧ vx_Zq Bundle.tN "UNASSIGNED_STACK" Bundle.steD A U H ∧ vx_Zq Bundle.tN "SUPPRESSED_SENTINEL" Bundle.listD A U H ∧ sj_N3 U
theorem sj_XA_warm {A : Nat → Prop} {s U : State} {H : Heap} (hW : s.WarmedH U.vm) (h : sj_XA A s H) : sj_XA A U H := ⟨sj_XW_moved hW.alike h.1, ⟨h.2.1.1.moved hW.alike, h.2.1.2.moved hW.alike⟩, fun t ht => (h.2.2.1 t ht).imp (fun _ hR => vk_R.warm hW hR), h.2.2.2.1.moved hW.alike, h.2.2.2.2.1.moved hW.alike, sj_N3_moved hW.alike h.2.2.2.2.2⟩
theorem sj_XA_same {A : Nat → Prop} {u U : State} {H : Heap} (hvm : u.vm = U.vm) (h : sj_XA A u H) : sj_XA A U H := by
  have hal : u.vm.Alike U.vm := by
    rw [hvm]
    exact Vm.Alike.refl _
  exact ⟨sj_XW_moved hal h.1, ⟨h.2.1.1.moved hal, h.2.1.2.moved hal⟩, fun t ht => (h.2.2.1 t ht).imp (fun _ hR => vk_R.same hvm.symm hR), h.2.2.2.1.moved hal, h.2.2.2.2.1.moved hal, sj_N3_moved hal h.2.2.2.2.2⟩
theorem sj_XA_kept {A : Nat → Prop} {U : State} {H H1 : Heap} (h : sj_XA A U H) (hq : ∀ a : Nat, a < H.size → ¬ A a → H1[a]? = H[a]?) : sj_XA A U H1 := ⟨h.1, h.2.1, h.2.2.1, h.2.2.2.1.kept hq, h.2.2.2.2.1.kept hq, h.2.2.2.2.2⟩
/-- what else holds wherever a method of ours is called -/
def sj_Am (A : Nat → Prop) (U : State) (H : Heap) : Prop := sj_NW U ∧ sj_ZS A U H ∧ sj_XA A U H
theorem sj_Am_warm {A : Nat → Prop} {s U : State} {H : Heap} (hW : s.WarmedH U.vm) (h : sj_Am A s H) : sj_Am A U H := ⟨sj_NW_warm hW h.1, sj_ZS_moved hW.alike h.2.1, sj_XA_warm hW h.2.2⟩
theorem sj_Am_same {A : Nat → Prop} {u U : State} {H : Heap} (hvm : u.vm = U.vm) (h : sj_Am A u H) : sj_Am A U H := ⟨sj_NW_same hvm h.1, sj_ZS_moved (by rw [hvm]; exact Vm.Alike.refl _) h.2.1, sj_XA_same hvm h.2.2⟩
theorem sj_Am_kept {A : Nat → Prop} {U : State} {H H1 : Heap} (h : sj_Am A U H) (hq : ∀ a : Nat, a < H.size → ¬ A a → H1[a]? = H[a]?) : sj_Am A U H1 := ⟨h.1, sj_ZS_kept h.2.1 hq, sj_XA_kept h.2.2 hq⟩
abbrev sj_GT : List Cond := wsL_law
-- a method: its name, its code, its locals, what it returns; frames, locals, cells and slots that it may ask for
abbrev sj_M : Type := MethodName × ByteArray × Nat × Option FieldType × Nat × Nat × Nat × Nat
abbrev sj_X : Type := Program × Launch × Env × Room × State × MethodId × Array Value × List Frame × Method × Code × va_G × (Nat → ClassId) × (Nat → Prop) × Nat × (State → Prop)
def sj_lv : Nat → List (Option Value) → List (Nat × Value)
  | _, [] => []
  | i, none :: t => sj_lv (i + 1) t
  | i, some v :: t => (i, v) :: sj_lv (i + 1) t
theorem sj_lv_mem : ∀ (L : List (Option Value)) (i k : Nat) (v : Value), L[k]? = some (some v) → (i + k, v) ∈ sj_lv i L
  | [], _, _, _, h => by simp at h
  | none :: t, i, 0, v, h => by simp at h
  | some w :: t, i, 0, v, h => by
    have : w = v := by simpa using h
    subst this
    exact List.mem_cons_self
  | none :: t, i, k + 1, v, h => by
    have h1 := sj_lv_mem t (i + 1) k v (by simpa using h)
    have h3 : i + 1 + k = i + (k + 1) := by omega
    rw [h3] at h1
    exact h1
  | some w :: t, i, k + 1, v, h => by
    have h1 := sj_lv_mem t (i + 1) k v (by simpa using h)
    have h3 : i + 1 + k = i + (k + 1) := by omega
    rw [h3] at h1
    exact List.mem_cons_of_mem _ h1
theorem sj_lv_inv : ∀ (L : List (Option Value)) (i : Nat) (q : Nat × Value), q ∈ sj_lv i L → ∃ k, q.1 = i + k ∧ L[k]? = some (some q.2)
  | [], _, _, h => by simp [sj_lv] at h
  | none :: t, i, q, h => by
    obtain ⟨k, h1, h2⟩ := sj_lv_inv t (i + 1) q h
    exact ⟨k + 1, by omega, by simpa using h2⟩
  | some w :: t, i, q, h => by
    rcases List.mem_cons.mp h with h | h
    · subst h
      exact ⟨0, by simp, by simp⟩
    · obtain ⟨k, h1, h2⟩ := sj_lv_inv t (i + 1) q h
      exact ⟨k + 1, by omega, by simpa using h2⟩
def sj_okb (L : List (Option Value)) : Nat → Bool
  | 0 => true
  | j + 1 => match L[j]? with
    | some (some w) => !(w.category == 2)
    | _ => true
def sj_G (X : sj_X) (S : sj_St) (cl sl : Nat) (L : List (Option Value)) (pc : Nat) (st : List Value) : Prop := match X with
  | (p, l, e, R, s, m, args, below, meth, c, D, cy, A, nL, Q) => ∀ (H : Heap) (locs : List Loc) (ls : Array Slot), sj_HP D cy A S H → va_S A s.heap H locs → lv_has ls nL (sj_lv 0 L) → W p l e R s m args below meth c H locs cl sl Q (F0 m pc ls st)
def sj_C (X : sj_X) (M : sj_M) : Prop := match X, M with
  | (p, _, _, R, s, m, args, _, meth, c, D, cy, A, nL, _), (y, cc, nL0, ret, fr, lo, mc, ms) =>
    p.tables.exec = Jvm.exec ∧ c.code = cc ∧ (c.maxLocals = nL ∧ nL = nL0) ∧ s.vm.findClass y.cls = some m.cls ∧ (∀ w ∈ sj_GT, w.before args s = true) ∧ (meth.locks = false ∧ meth.sig.returnType = ret ∧ meth.name = y.name) ∧ va_K D vwCl (sj_tys cy) s ∧ sj_Am A s s.heap ∧ (∀ q, s.heap.size ≤ q → A q) ∧ R = { frames := fr, cells := mc, slots := ms, locals := lo }
def sj_In (D : va_G) (cy : Nat → ClassId) (A : Nat → Prop) (S : sj_St) (sz : Nat) (U : State) : Prop := U.heap.size = sz ∧ sj_HP D cy A S U.heap ∧ va_K D vwCl (sj_tys cy) U ∧ sj_Am A U U.heap
def sj_Qc (D : va_G) (cy : Nat → ClassId) (A : Nat → Prop) (Post : Option Value → sj_St → Prop) : Array Value → State → Outcome → State → Prop := fun _ st oc t => (∃ (r : Option Value) (S' : sj_St), oc = .returned r ∧ Post r S' ∧ sj_HP D cy A S' t.heap) ∧ va_F A st t
/-- a contract: called with av over S, the method returns, and what it returns and the state behind it are as Post says -/
def sj_Ctr (l : Launch) (M : sj_M) (av : List Value) (S : sj_St) (Post : Option Value → sj_St → Prop) : Prop := match M with
  | (y, cc, nL, ret, fr, lo, mc, ms) => ∀ (D : va_G) (cy : Nat → ClassId) (A : Nat → Prop) (sz : Nat), (∀ q, sz ≤ q → A q) → Met l y (.code y cc nL ret :: sj_GT) { frames := fr, cells := mc, slots := ms, locals := lo } (va_Pc av (sj_In D cy A S sz)) (sj_Qc D cy A Post) mc ms A
def sj_R (X : sj_X) (M : sj_M) (Post : Option Value → sj_St → Prop) : Prop := match X, M with
  | (_, _, _, _, s, _, args, below, _, _, D, cy, A, _, Q), (_, _, _, _, _, _, mc, ms) => Q = MQ below (sj_Qc D cy A Post) args s mc ms A
theorem sj_blind {D : va_G} {cy : Nat → ClassId} {A : Nat → Prop} {S : sj_St} {sz : Nat} {av : List Value} : FrameBlind (va_Pc av (sj_In D cy A S sz)) := fun a U g mk q => by
  obtain ⟨q0, q1, q2, q3, q4⟩ := q
  exact ⟨q0, q1, q2, va_K.moved (u := U) (U := U.calling g mk a) (Vm.Alike.refl U.vm) q3, sj_Am_same (u := U) (U := U.calling g mk a) rfl q4⟩
theorem sj_start {l : Launch} {M : sj_M} {av : List Value} {S : sj_St} {Post : Option Value → sj_St → Prop} (L0 : List (Option Value)) (hy : plainName M.1.cls = true) (hlen : Nat.ble (lg_sl av).length M.2.2.1 = true) (hL : sj_lv 0 L0 = lv_args 0 av) (body : ∀ X : sj_X, X.2.1 = l → sj_C X M → sj_R X M Post → sj_G X S 0 0 L0 0 []) : sj_Ctr l M av S Post := by
  obtain ⟨y, cc, nL, ret, fr, lo, mc, ms⟩ := M
  intro D cy A sz hA
  refine Met.ofW (cc := cc) (maxL := nL) (ret := ret) hy rfl ?_
  intro p e s m args below meth c s₁ B hml hv
  obtain ⟨rfl, hsz, hP, hK, hAm⟩ := hv
  have hts := atoms_spec (ws := .code y cc nL ret :: sj_GT) B.pre
  subst hsz
  have h1 := body (p, l, e, _, s, m, _, below, meth, c, D, cy, A, nL, _) rfl ⟨B.exec, B.bytes, ⟨hml, rfl⟩, findClass_of_methodNamed B.named, fun w hw => hts w (List.mem_cons_of_mem _ hw), ⟨B.notSynchronized, B.returns, (name_of_methodNamed B.named B.method).1⟩, hK, hAm, hA, rfl⟩ rfl
  rw [lg_entry_eq]
  refine h1 s.heap [] _ hP va_S.rf ?_
  rw [hL]
  exact lv_entry av (Nat.le_of_ble_eq_true hlen)
-- ===== what a call needs: by the number of the entry in the caller's table =====
def sj_V (own : String) (idx : Nat) (M : sj_M) (n : Nat) : Prop := match M with
  | (y, cc, nL, ret, _, _, _, _) => Cond.methodLink own idx y ∈ sj_GT ∧ Cond.instanceMethod y ∈ sj_GT ∧ Cond.selects y.cls y y ∈ sj_GT ∧ Cond.initialized y.cls ∈ sj_GT ∧ Cond.code y cc nL ret ∈ sj_GT ∧ (y.cls ≠ "java/lang/invoke/MethodHandle" ∧ y.cls ≠ "java/lang/invoke/VarHandle") ∧ (parseMethodDescriptor y.desc).map (fun d => d.parameters.length) = some n
def sj_Vn (own : String) (idx : Nat) (M : sj_M) (n : Nat) : Prop := match M with
  | (y, cc, nL, ret, _, _, _, _) => Cond.methodLinkNest own idx y "SlantOaths" ∈ sj_NWl ∧ Cond.instanceMethod y ∈ sj_GT ∧ Cond.selects y.cls y y ∈ sj_GT ∧ Cond.initialized y.cls ∈ sj_GT ∧ Cond.code y cc nL ret ∈ sj_GT ∧ (y.cls ≠ "java/lang/invoke/MethodHandle" ∧ y.cls ≠ "java/lang/invoke/VarHandle") ∧ (parseMethodDescriptor y.desc).map (fun d => d.parameters.length) = some n
def sj_Vs (own : String) (idx : Nat) (M : sj_M) (n : Nat) : Prop := match M with
  | (y, cc, nL, ret, _, _, _, _) => Cond.methodLink own idx y ∈ sj_GT ∧ Cond.static y ∈ sj_GT ∧ Cond.initialized y.cls ∈ sj_GT ∧ Cond.code y cc nL ret ∈ sj_GT ∧ (y.cls ≠ "java/lang/invoke/MethodHandle" ∧ y.cls ≠ "java/lang/invoke/VarHandle") ∧ (parseMethodDescriptor y.desc).map (fun d => d.parameters.length) = some n
def sj_Vsn (own : String) (idx : Nat) (M : sj_M) (n : Nat) : Prop := match M with
  | (y, cc, nL, ret, _, _, _, _) => Cond.methodLinkNest own idx y "SlantOaths" ∈ sj_NWl ∧ Cond.static y ∈ sj_GT ∧ Cond.initialized y.cls ∈ sj_GT ∧ Cond.code y cc nL ret ∈ sj_GT ∧ (y.cls ≠ "java/lang/invoke/MethodHandle" ∧ y.cls ≠ "java/lang/invoke/VarHandle") ∧ (parseMethodDescriptor y.desc).map (fun d => d.parameters.length) = some n
theorem sj_GT_good : GoodIn sj_GT sj_GT := goodIn_sub (fun _ h => h) (by decide +kernel)
theorem sj_good (y : MethodName) (cc : ByteArray) (nL : Nat) (ret : Option FieldType) (h : Cond.code y cc nL ret ∈ sj_GT) : GoodIn sj_GT (.code y cc nL ret :: sj_GT) := by
  intro w hw
  rcases List.mem_cons.mp hw with h1 | h1
  · subst h1
    exact sj_GT_good _ h
  · exact sj_GT_good _ h1
def sj_fit (M N : sj_M) (cl sl : Nat) : Bool := Nat.ble (N.2.2.2.2.1 + 1) M.2.2.2.2.1 && (Nat.ble (8 + (N.2.2.1 + 11) + N.2.2.2.2.2.1) M.2.2.2.2.2.1 && (Nat.ble (cl + N.2.2.2.2.2.2.1) M.2.2.2.2.2.2.1 && Nat.ble (sl + N.2.2.2.2.2.2.2) M.2.2.2.2.2.2.2))
theorem sj_fit_of {M N : sj_M} {cl sl : Nat} (h : sj_fit M N cl sl = true) : N.2.2.2.2.1 + 1 ≤ M.2.2.2.2.1 ∧ 8 + (N.2.2.1 + 11) + N.2.2.2.2.2.1 ≤ M.2.2.2.2.2.1 ∧ cl + N.2.2.2.2.2.2.1 ≤ M.2.2.2.2.2.2.1 ∧ sl + N.2.2.2.2.2.2.2 ≤ M.2.2.2.2.2.2.2 := by
  simp only [sj_fit, Bool.and_eq_true] at h
  exact ⟨Nat.le_of_ble_eq_true h.1, Nat.le_of_ble_eq_true h.2.1, Nat.le_of_ble_eq_true h.2.2.1, Nat.le_of_ble_eq_true h.2.2.2⟩
