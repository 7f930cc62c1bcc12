/-! calls that write: a row in place, and blocks of a world in place -/
theorem rw_notin {cI : ClassId} {a b L : Nat} {f : Nat → Int32} {sz q : Nat} (ha : q ≠ a) (hb : q ≠ b) (hl : q < sz) : ¬ va_A (rwW cI a b L f) sz q := by
  intro h
  rcases h with ⟨k, e, h⟩ | h
  · match k, h with
    | 0, h => cases h; exact ha rfl
    | 1, h => cases h; exact hb rfl
    | k + 2, h => cases h
  · omega
theorem back_row {D : va_G} {A0 : Nat → Prop} {ws : va_W} {H H1 : Heap} {cI : ClassId} {i0 i1 a b L : Nat} {f f' : Nat → Int32} (hP : va_P D vwCl ws H) (hD : va_D A0 ws) (h0 : ws[i0]? = some (a, .inr (4, [.ref b]))) (h1 : ws[i1]? = some (b, .inl (cI, L, .inl f)))
    (hk : ∀ q : Nat, q < H.size → ¬ va_A (rwW cI a b L f) H.size q → H1[q]? = H[q]?) (hP1 : va_P D vwCl (rwW cI a b L f') H1) : va_P D vwCl (ws.set i1 (b, .inl (cI, L, .inl f'))) H1 ∧ va_D A0 (ws.set i1 (b, .inl (cI, L, .inl f'))) := by
  refine ⟨fun k q hq => ?_, hD.set h1⟩
  have hl := (List.getElem?_eq_some_iff.mp h1).1
  by_cases hki : k = i1
  · subst hki
    rw [List.getElem?_set_self hl] at hq
    cases hq
    exact hP1 1 _ rfl
  · rw [List.getElem?_set_ne (Ne.symm hki)] at hq
    by_cases hqa : q.1 = a
    · have := hD.1 k i0 q _ hq h0 hqa
      subst this
      rw [h0] at hq
      cases hq
      exact hP1 0 _ rfl
    · have hqb : q.1 ≠ b := fun e => hki (hD.1 k i1 q _ hq h1 e)
      exact (hP k q hq).kept (hk q.1 (hP k q hq).lt (rw_notin hqa hqb (hP k q hq).lt))
theorem two_sub {ws : va_W} {i0 i1 : Nat} {x y : Nat × va_E} (h0 : ws[i0]? = some x) (h1 : ws[i1]? = some y) : [i0, i1].map (fun i => ws[i]?) = [x, y].map some := by
  simp [h0, h1]
theorem D_two {A0 : Nat → Prop} {ws : va_W} {i0 i1 : Nat} {x y : Nat × va_E} (hD : va_D A0 ws) (hne : i0 ≠ i1) (h0 : ws[i0]? = some x) (h1 : ws[i1]? = some y) : va_D A0 [x, y] :=
  hD.sub [i0, i1] (by simp [va_nd, hne]) (two_sub h0 h1)
theorem P_two {D : va_G} {cl : List vw_C} {ws : va_W} {H : Heap} {i0 i1 : Nat} {x y : Nat × va_E} (hP : va_P D cl ws H) (h0 : ws[i0]? = some x) (h1 : ws[i1]? = some y) : va_P D cl [x, y] H :=
  hP.sub [i0, i1] (by simp [h0, h1])
section HR
variable {p : Program} {l : Launch} {e : Env} {R : Room} {s : State} {m : MethodId} {args : Array Value} {below : List Frame} {meth : Method} {c : Code} {H : Heap} {locs : List Loc} {cells slots : Nat} {Q : State → Prop}
variable {pc : Nat} {ls : Array Slot} {rest st0 As : List Value} {A0 : Nat → Prop} {H0 : Heap} {mc ms nL index n maxL : Nat} {D : va_G} {cI cN : ClassId} {cc bytes : ByteArray} {y : MethodName} {ret : Option FieldType} {wy Ts : List Cond} {rm : Room} {own C : String} {b : Nat} {r0 : Int32} {a0 : Nat} {ws wc wr w1 wf : va_W} {ci q0 : Nat} {fs : List Value} {T : u_T} {N : Nat}
/-- a call on a row that writes it -/
theorem cRv {a b L i0 i1 : Nat} {f f' : Nat → Int32} (S : CallFix p m c cc nL s args Ts own) (hM : CtV l D cI cN y wy rm 0 0 (.ref a :: As) (rwW cI a b L f) H.size (rwW cI a b L f')) (cw : CallW R s args own RX4 index y bytes maxL ret wy rm 0 0 n) (hK : KN D cI cN s) (hP : va_P D vwCl ws H) (hD : va_D A0 ws) (hS : va_S A0 H0 H locs) (hA : ∀ q, H0.size ≤ q → A0 q)
    (h0 : ws[i0]? = some (a, .inr (4, [.ref b]))) (h1 : ws[i1]? = some (b, .inl (cI, L, .inl f))) (hne : i0 ≠ i1) (hwf : ws.set i1 (b, .inl (cI, L, .inl f')) = wf)
    (hn : As.length = n) (hsz : ls.size = nL) (hst : st0 = As.reverse ++ .ref a :: rest) (hroom : (rest.map fun v => v.category).sum ≤ 8) (hdg : decode cc pc = .ok (.invokevirtual index, 3)) (hf : cells ≤ R.cells ∧ slots ≤ R.slots)
    (kk : ∀ (H1 : Heap) (locs1 : List Loc), va_P D vwCl wf H1 → va_D A0 wf → va_S A0 H0 H1 locs1 → W p l e R s m args below meth c H1 locs1 cells slots Q (F0 m (pc + 3) ls rest)) : W p l e R s m args below meth c H locs cells slots Q (F0 m pc ls st0) := by
  subst hwf
  have hPc : va_P D vwCl (rwW cI a b L f) H := P_two hP h0 h1
  have hDc : va_D (fun _ => True) (rwW cI a b L f) := (D_two hD hne h0 h1).weaken (fun _ _ _ _ => trivial)
  have hFc := va_free (wc := rwW cI a b L f) hD hS hA [i0, i1] (two_sub h0 h1)
  refine va_callv (va_runV (As := As) (rest := rest) S hM cw ⟨blW, va_recv hK.1 hP (ci := 4) (q0 := i0) rfl h0, fun U hU hW => ⟨rfl, by rw [hU], by rw [hU]; exact hPc, hK.warm hW, hDc⟩⟩ rfl hn hsz hst (lv_room hroom) hdg hf) hS (fun q _ h => hFc q h) hFc (fun u t H1 locs1 ht hvm hw hB hz1 hk1 hS1 => ?_)
  obtain ⟨hP1, hD1⟩ := hB
  rw [ht] at hP1
  obtain ⟨g1, g2⟩ := back_row hP hD h0 h1 hk1 hP1
  exact kk H1 locs1 g1 g2 hS1
end HR
/-! blocks: (is it the callee's?, what it was, what it is) -/
abbrev BL : Type := List (Bool × va_W × va_W)
def catB : List va_W → va_W
  | [] => []
  | [b] => b
  | b :: c :: t => b ++ catB (c :: t)
def oldB (L : BL) : va_W := catB (L.map (fun b => b.2.1))
def newB (L : BL) : va_W := catB (L.map (fun b => b.2.2))
def selO (L : BL) : va_W := catB ((L.filter (fun b => b.1)).map (fun b => b.2.1))
def selN (L : BL) : va_W := catB ((L.filter (fun b => b.1)).map (fun b => b.2.2))
def okB : BL → Prop
  | [] => True
  | b :: t => b.2.2.map Prod.fst = b.2.1.map Prod.fst ∧ (b.1 = false → b.2.2 = b.2.1) ∧ okB t
theorem catB_cons (b : va_W) (t : List va_W) : ∀ x, x ∈ catB (b :: t) ↔ x ∈ b ∨ x ∈ catB t := by
  intro x
  cases t with
  | nil => simp [catB]
  | cons c t => show x ∈ b ++ catB (c :: t) ↔ _; rw [List.mem_append]
theorem catB_app (b : va_W) (t : List va_W) : catB (b :: t) = b ++ catB t := by
  cases t with
  | nil => simp [catB]
  | cons c t => rfl
theorem P_mem {D : va_G} {cl : List vw_C} {ws : va_W} {H : Heap} : va_P D cl ws H ↔ ∀ q ∈ ws, va_at D cl q H :=
  ⟨fun h q hq => by obtain ⟨i, hi⟩ := List.getElem?_of_mem hq; exact h i q hi, fun h k q hk => h q (List.mem_of_getElem? hk)⟩
theorem D_nodup {A : Nat → Prop} {ws : va_W} : va_D A ws ↔ (ws.map Prod.fst).Nodup ∧ ∀ q ∈ ws, A q.1 := by
  constructor
  · intro h
    refine ⟨?_, fun q hq => by obtain ⟨i, hi⟩ := List.getElem?_of_mem hq; exact h.2 i q hi⟩
    rw [List.nodup_iff_pairwise_ne, List.pairwise_iff_getElem]
    intro i j hi hj hij he
    have hi' : i < ws.length := by simpa using hi
    have hj' : j < ws.length := by simpa using hj
    have := h.1 i j ws[i] ws[j] (List.getElem?_eq_getElem hi') (List.getElem?_eq_getElem hj') (by simpa using he)
    omega
  · intro h
    refine ⟨fun i j p q hi hj hpq => ?_, fun k q hk => h.2 q (List.mem_of_getElem? hk)⟩
    have hi' := (List.getElem?_eq_some_iff.mp hi).1
    have hj' := (List.getElem?_eq_some_iff.mp hj).1
    have hn := List.pairwise_iff_getElem.mp (List.nodup_iff_pairwise_ne.mp h.1)
    have ei : (ws.map Prod.fst)[i]'(by simpa using hi') = p.1 := by rw [List.getElem_map, (List.getElem?_eq_some_iff.mp hi).2]
    have ej : (ws.map Prod.fst)[j]'(by simpa using hj') = q.1 := by rw [List.getElem_map, (List.getElem?_eq_some_iff.mp hj).2]
    rcases Nat.lt_trichotomy i j with hlt | he | hlt
    · exact absurd (ei.trans (hpq.trans ej.symm)) (hn i j _ _ hlt)
    · exact he
    · exact absurd (ej.trans (hpq.symm.trans ei.symm)) (hn j i _ _ hlt)
theorem sel_mem {L : BL} : ∀ q, q ∈ selO L ↔ ∃ b ∈ L, b.1 = true ∧ q ∈ b.2.1 := by
  induction L with
  | nil => intro q; simp [selO, catB]
  | cons b t ih =>
    intro q
    by_cases hb : b.1 = true
    · have : selO (b :: t) = catB (b.2.1 :: (t.filter (fun b => b.1)).map (fun b => b.2.1)) := by simp [selO, hb]
      rw [this, catB_cons]
      have ih' : q ∈ catB ((t.filter (fun b => b.1)).map (fun b => b.2.1)) ↔ ∃ b ∈ t, b.1 = true ∧ q ∈ b.2.1 := ih q
      rw [ih']
      simp [hb]
    · have : selO (b :: t) = selO t := by simp [selO, hb]
      rw [this, ih q]
      simp [hb]
theorem old_mem {L : BL} : ∀ q, q ∈ oldB L ↔ ∃ b ∈ L, q ∈ b.2.1 := by
  induction L with
  | nil => intro q; simp [oldB, catB]
  | cons b t ih =>
    intro q
    have : oldB (b :: t) = catB (b.2.1 :: t.map (fun b => b.2.1)) := rfl
    rw [this, catB_cons]
    have ih' : q ∈ catB (t.map (fun b => b.2.1)) ↔ ∃ b ∈ t, q ∈ b.2.1 := ih q
    rw [ih']
    simp
theorem new_mem {L : BL} : ∀ q, q ∈ newB L ↔ ∃ b ∈ L, q ∈ b.2.2 := by
  induction L with
  | nil => intro q; simp [newB, catB]
  | cons b t ih =>
    intro q
    have : newB (b :: t) = catB (b.2.2 :: t.map (fun b => b.2.2)) := rfl
    rw [this, catB_cons]
    have ih' : q ∈ catB (t.map (fun b => b.2.2)) ↔ ∃ b ∈ t, q ∈ b.2.2 := ih q
    rw [ih']
    simp
theorem selN_mem {L : BL} : ∀ q, q ∈ selN L ↔ ∃ b ∈ L, b.1 = true ∧ q ∈ b.2.2 := by
  induction L with
  | nil => intro q; simp [selN, catB]
  | cons b t ih =>
    intro q
    by_cases hb : b.1 = true
    · have : selN (b :: t) = catB (b.2.2 :: (t.filter (fun b => b.1)).map (fun b => b.2.2)) := by simp [selN, hb]
      rw [this, catB_cons]
      have ih' : q ∈ catB ((t.filter (fun b => b.1)).map (fun b => b.2.2)) ↔ ∃ b ∈ t, b.1 = true ∧ q ∈ b.2.2 := ih q
      rw [ih']
      simp [hb]
    · have : selN (b :: t) = selN t := by simp [selN, hb]
      rw [this, ih q]
      simp [hb]
theorem sel_sub {L : BL} : ((selO L).map Prod.fst).Sublist ((oldB L).map Prod.fst) := by
  induction L with
  | nil => simp [selO, oldB, catB]
  | cons b t ih =>
    have ho : oldB (b :: t) = b.2.1 ++ oldB t := catB_app _ _
    rw [ho, List.map_append]
    by_cases hb : b.1 = true
    · have : selO (b :: t) = b.2.1 ++ selO t := by
        have : selO (b :: t) = catB (b.2.1 :: (t.filter (fun b => b.1)).map (fun b => b.2.1)) := by simp [selO, hb]
        rw [this, catB_app]; rfl
      rw [this, List.map_append]
      exact List.Sublist.append (List.Sublist.refl _) ih
    · have : selO (b :: t) = selO t := by simp [selO, hb]
      rw [this]
      exact ih.trans (List.sublist_append_right _ _)
theorem new_addr {L : BL} (h : okB L) : (newB L).map Prod.fst = (oldB L).map Prod.fst := by
  induction L with
  | nil => rfl
  | cons b t ih =>
    have ho : oldB (b :: t) = b.2.1 ++ oldB t := catB_app _ _
    have hn : newB (b :: t) = b.2.2 ++ newB t := catB_app _ _
    rw [ho, hn, List.map_append, List.map_append, h.1, ih h.2.2]
theorem okB_mem {L : BL} (h : okB L) : ∀ b ∈ L, b.2.2.map Prod.fst = b.2.1.map Prod.fst ∧ (b.1 = false → b.2.2 = b.2.1) := by
  induction L with
  | nil => intro b hb; simp at hb
  | cons a t ih =>
    intro b hb
    rcases List.mem_cons.mp hb with rfl | hb
    · exact ⟨h.1, h.2.1⟩
    · exact ih h.2.2 b hb
theorem P_sel {D : va_G} {cl : List vw_C} {H : Heap} (L : BL) (hP : va_P D cl (oldB L) H) : va_P D cl (selO L) H := by
  rw [P_mem] at hP ⊢
  intro q hq
  obtain ⟨b, h1, _, h3⟩ := (sel_mem q).mp hq
  exact hP q ((old_mem q).mpr ⟨b, h1, h3⟩)
theorem D_sel {A : Nat → Prop} (L : BL) (hD : va_D A (oldB L)) : va_D A (selO L) := by
  rw [D_nodup] at hD ⊢
  refine ⟨hD.1.sublist sel_sub, fun q hq => ?_⟩
  obtain ⟨b, h1, _, h3⟩ := (sel_mem q).mp hq
  exact hD.2 q ((old_mem q).mpr ⟨b, h1, h3⟩)
theorem D_new {A : Nat → Prop} {L : BL} (h : okB L) (hD : va_D A (oldB L)) : va_D A (newB L) := by
  rw [D_nodup] at hD ⊢
  rw [new_addr h]
  refine ⟨hD.1, fun q hq => ?_⟩
  have : q.1 ∈ (newB L).map Prod.fst := List.mem_map_of_mem hq
  rw [new_addr h] at this
  obtain ⟨r, hr, e⟩ := List.mem_map.mp this
  rw [← e]; exact hD.2 r hr
theorem back_bl {D : va_G} {A0 : Nat → Prop} {H H1 : Heap} (L : BL) (ok : okB L) (hP : va_P D vwCl (oldB L) H) (hD : va_D A0 (oldB L)) (hk : ∀ q : Nat, q < H.size → ¬ va_A (selO L) H.size q → H1[q]? = H[q]?) (hP1 : va_P D vwCl (selN L) H1) : va_P D vwCl (newB L) H1 ∧ va_D A0 (newB L) := by
  refine ⟨?_, D_new ok hD⟩
  rw [P_mem] at hP1 ⊢
  intro q hq
  by_cases hin : q ∈ selN L
  · exact hP1 q hin
  · obtain ⟨i, hi⟩ := List.getElem?_of_mem hq
    obtain ⟨b, h1, h2⟩ := (new_mem q).mp hq
    have hb : b.1 = false := by
      by_cases hb : b.1 = true
      · exact absurd ((selN_mem q).mpr ⟨b, h1, hb, h2⟩) hin
      · simpa using hb
    have hqo : q ∈ oldB L := (old_mem q).mpr ⟨b, h1, by rw [← (okB_mem ok b h1).2 hb]; exact h2⟩
    have hlt := ((P_mem.mp hP) q hqo).lt
    refine ((P_mem.mp hP) q hqo).kept (hk q.1 hlt ?_)
    intro hA
    rcases hA with ⟨k, e, hke⟩ | hA
    · have hm : (q.1, e) ∈ selO L := List.mem_of_getElem? hke
      obtain ⟨b2, g1, g2, g3⟩ := (sel_mem _).mp hm
      -- the same address in the new world twice: once in a callee's block, once here
      have ha : q.1 ∈ b2.2.2.map Prod.fst := by rw [(okB_mem ok b2 g1).1]; exact List.mem_map.mpr ⟨(q.1, e), g3, rfl⟩
      obtain ⟨r, hr, er⟩ := List.mem_map.mp ha
      have hrn : r ∈ newB L := (new_mem r).mpr ⟨b2, g1, hr⟩
      have hDn := D_new ok hD
      obtain ⟨j, hj⟩ := List.getElem?_of_mem hrn
      have := hDn.1 i j q r hi hj er.symm
      subst this
      rw [hi] at hj
      cases hj
      exact hin ((selN_mem q).mpr ⟨b2, g1, g2, hr⟩)
    · omega
section HB
variable {p : Program} {l : Launch} {e : Env} {R : Room} {s : State} {m : MethodId} {args : Array Value} {below : List Frame} {meth : Method} {c : Code} {H : Heap} {locs : List Loc} {cells slots : Nat} {Q : State → Prop}
variable {pc : Nat} {ls : Array Slot} {rest st0 As : List Value} {A0 : Nat → Prop} {H0 : Heap} {mc ms nL index n maxL : Nat} {D : va_G} {cI cN : ClassId} {cc bytes : ByteArray} {y : MethodName} {ret : Option FieldType} {wy Ts : List Cond} {rm : Room} {own C : String} {b : Nat} {r0 : Int32} {a0 : Nat} {ws wc wr w1 wf : va_W} {ci q0 : Nat} {fs : List Value} {T : u_T} {N : Nat}
theorem free_bl {A0 : Nat → Prop} {H0 H : Heap} {locs : List Loc} (L : BL) (hD : va_D A0 (oldB L)) (hS : va_S A0 H0 H locs) (hA : ∀ q, H0.size ≤ q → A0 q) : ∀ q, va_A (selO L) H.size q → A0 q := by
  intro q h
  rcases h with ⟨k, e, h⟩ | h
  · exact (D_sel L hD).2 k _ h
  · exact hA q (Nat.le_trans hS.1 h)
/-- a virtual call that writes blocks in place: an int comes -/
theorem cBi (L : BL) (ok : okB L) (S : CallFix p m c cc nL s args Ts own) (hM : CtI l D cI cN y wy rm 0 0 (.ref b :: As) (selO L) H.size r0 (selN L)) (cw : CallW R s args own C index y bytes maxL ret wy rm 0 0 n) (hK : KN D cI cN s) (hP : va_P D vwCl (oldB L) H) (hD : va_D A0 (oldB L)) (hS : va_S A0 H0 H locs) (hA : ∀ q, H0.size ≤ q → A0 q)
    (he : (oldB L)[q0]? = some (b, .inr (ci, fs))) (hc : vwCl[ci]? = some (C, T, N)) (hn : As.length = n) (hsz : ls.size = nL) (hst : st0 = As.reverse ++ .ref b :: rest) (hroom : (rest.map fun v => v.category).sum ≤ 8) (hdg : decode cc pc = .ok (.invokevirtual index, 3)) (hf : cells ≤ R.cells ∧ slots ≤ R.slots)
    (kk : ∀ (H1 : Heap) (locs1 : List Loc), va_P D vwCl (newB L) H1 → va_D A0 (newB L) → va_S A0 H0 H1 locs1 → W p l e R s m args below meth c H1 locs1 cells slots Q (F0 m (pc + 3) ls (.int r0 :: rest))) : W p l e R s m args below meth c H locs cells slots Q (F0 m pc ls st0) := by
  have hPc := P_sel L hP
  have hDc : va_D (fun _ => True) (selO L) := (D_sel L hD).weaken (fun _ _ _ _ => trivial)
  have hFc := free_bl L hD hS hA
  refine va_calli (va_runV (As := As) (rest := rest) S hM cw ⟨blW, va_recv hK.1 hP hc he, fun U hU hW => ⟨rfl, by rw [hU], by rw [hU]; exact hPc, hK.warm hW, hDc⟩⟩ rfl hn hsz hst (lv_room hroom) hdg hf) hS (fun q _ h => hFc q h) hFc (fun r u t H1 locs1 ht hvm hw hB hz1 hk1 hS1 => ?_)
  subst hw
  obtain ⟨hP1, hD1⟩ := hB
  rw [ht] at hP1
  obtain ⟨h1, h2⟩ := back_bl L ok hP hD hk1 hP1
  exact kk H1 locs1 h1 h2 hS1
theorem cBv (L : BL) (ok : okB L) (S : CallFix p m c cc nL s args Ts own) (hM : CtV l D cI cN y wy rm 0 0 (.ref b :: As) (selO L) H.size (selN L)) (cw : CallW R s args own C index y bytes maxL ret wy rm 0 0 n) (hK : KN D cI cN s) (hP : va_P D vwCl (oldB L) H) (hD : va_D A0 (oldB L)) (hS : va_S A0 H0 H locs) (hA : ∀ q, H0.size ≤ q → A0 q)
    (he : (oldB L)[q0]? = some (b, .inr (ci, fs))) (hc : vwCl[ci]? = some (C, T, N)) (hn : As.length = n) (hsz : ls.size = nL) (hst : st0 = As.reverse ++ .ref b :: rest) (hroom : (rest.map fun v => v.category).sum ≤ 8) (hdg : decode cc pc = .ok (.invokevirtual index, 3)) (hf : cells ≤ R.cells ∧ slots ≤ R.slots)
    (kk : ∀ (H1 : Heap) (locs1 : List Loc), va_P D vwCl (newB L) H1 → va_D A0 (newB L) → va_S A0 H0 H1 locs1 → W p l e R s m args below meth c H1 locs1 cells slots Q (F0 m (pc + 3) ls rest)) : W p l e R s m args below meth c H locs cells slots Q (F0 m pc ls st0) := by
  have hPc := P_sel L hP
  have hDc : va_D (fun _ => True) (selO L) := (D_sel L hD).weaken (fun _ _ _ _ => trivial)
  have hFc := free_bl L hD hS hA
  refine va_callv (va_runV (As := As) (rest := rest) S hM cw ⟨blW, va_recv hK.1 hP hc he, fun U hU hW => ⟨rfl, by rw [hU], by rw [hU]; exact hPc, hK.warm hW, hDc⟩⟩ rfl hn hsz hst (lv_room hroom) hdg hf) hS (fun q _ h => hFc q h) hFc (fun u t H1 locs1 ht hvm hw hB hz1 hk1 hS1 => ?_)
  obtain ⟨hP1, hD1⟩ := hB
  rw [ht] at hP1
  obtain ⟨h1, h2⟩ := back_bl L ok hP hD hk1 hP1
  exact kk H1 locs1 h1 h2 hS1
/-- a virtual call that only reads: the callee's world given as proved -/
theorem cQi (S : CallFix p m c cc nL s args Ts own) (hM : CtP l D cI cN y wy rm (.ref b :: As) wc H.size r0) (cw : CallW R s args own C index y bytes maxL ret wy rm 0 0 n) (hK : KN D cI cN s) (hP : va_P D vwCl ws H) (hS : va_S A0 H0 H locs) (hA : ∀ q, H0.size ≤ q → A0 q)
    (hPc : va_P D vwCl wc H) (he : ws[q0]? = some (b, .inr (ci, fs))) (hc : vwCl[ci]? = some (C, T, N)) (hn : As.length = n) (hsz : ls.size = nL) (hst : st0 = As.reverse ++ .ref b :: rest) (hroom : (rest.map fun v => v.category).sum ≤ 8) (hdg : decode cc pc = .ok (.invokevirtual index, 3)) (hf : cells ≤ R.cells ∧ slots ≤ R.slots)
    (kk : ∀ (H1 : Heap) (locs1 : List Loc), va_P D vwCl ws H1 → va_S A0 H0 H1 locs1 → W p l e R s m args below meth c H1 locs1 cells slots Q (F0 m (pc + 3) ls (.int r0 :: rest))) : W p l e R s m args below meth c H locs cells slots Q (F0 m pc ls st0) := by
  refine va_calli (va_runV (As := As) (rest := rest) S hM cw ⟨blP, va_recv hK.1 hP hc he, fun U hU hW => ⟨rfl, by rw [hU], by rw [hU]; exact hPc, hK.warm hW⟩⟩ rfl hn hsz hst (lv_room hroom) hdg hf) hS (fun q _ h => hA q (Nat.le_trans hS.1 h)) (fun q h => hA q (Nat.le_trans hS.1 h)) (fun r u t H1 locs1 ht hvm hw hB hz1 hk1 hS1 => ?_)
  subst hw
  exact kk H1 locs1 (nw_keep hP hk1) hS1
end HB
theorem ad_net {cI : ClassId} {q : Nat → Nat} {n n' : OS} : (nwW cI q n').map Prod.fst = (nwW cI q n).map Prod.fst := rfl
theorem ad_rtr {cI : ClassId} {q : Nat → Nat} {n n' : OS} : (rtW cI q n').map Prod.fst = (rtW cI q n).map Prod.fst := rfl
theorem ad_txt {cI : ClassId} {q : Nat → Nat} {n n' : OS} : (txW cI q n').map Prod.fst = (txW cI q n).map Prod.fst := rfl
theorem ad_mod {cI : ClassId} {q : Nat → Nat} {n n' : OS} : (mdW cI q n').map Prod.fst = (mdW cI q n).map Prod.fst := rfl
theorem ad_cex {a a0 a1 a2 a3 a4 a5 a6 : Nat} {k k' : Int32} : (cxW a a0 a1 a2 a3 a4 a5 a6 k').map Prod.fst = (cxW a a0 a1 a2 a3 a4 a5 a6 k).map Prod.fst := rfl
theorem rw2_notin {cI : ClassId} {a b a2 b2 L : Nat} {f g : Nat → Int32} {sz q : Nat} (ha : q ≠ a) (hb : q ≠ b) (ha2 : q ≠ a2) (hb2 : q ≠ b2) (hl : q < sz) : ¬ va_A (rwW cI a b L f ++ rwW cI a2 b2 L g) sz q := by
  intro h
  rcases h with ⟨k, e, h⟩ | h
  · match k, h with
    | 0, h => cases h; exact ha rfl
    | 1, h => cases h; exact hb rfl
    | 2, h => cases h; exact ha2 rfl
    | 3, h => cases h; exact hb2 rfl
    | k + 4, h => cases h
  · omega
theorem back_row2 {D : va_G} {A0 : Nat → Prop} {ws : va_W} {H H1 : Heap} {cI : ClassId} {i0 i1 j0 j1 a b a2 b2 L : Nat} {f g : Nat → Int32} (hP : va_P D vwCl ws H) (hD : va_D A0 ws) (h0 : ws[i0]? = some (a, .inr (4, [.ref b]))) (h1 : ws[i1]? = some (b, .inl (cI, L, .inl f))) (g0 : ws[j0]? = some (a2, .inr (4, [.ref b2]))) (g1 : ws[j1]? = some (b2, .inl (cI, L, .inl g))) (hne : j1 ≠ i1)
    (hk : ∀ q : Nat, q < H.size → ¬ va_A (rwW cI a b L f ++ rwW cI a2 b2 L g) H.size q → H1[q]? = H[q]?) (hP1 : va_P D vwCl (rwW cI a b L g ++ rwW cI a2 b2 L g) H1) : va_P D vwCl (ws.set i1 (b, .inl (cI, L, .inl g))) H1 ∧ va_D A0 (ws.set i1 (b, .inl (cI, L, .inl g))) := by
  refine ⟨fun k q hq => ?_, hD.set h1⟩
  have hl := (List.getElem?_eq_some_iff.mp h1).1
  by_cases hki : k = i1
  · subst hki
    rw [List.getElem?_set_self hl] at hq
    cases hq
    exact hP1 1 _ rfl
  · rw [List.getElem?_set_ne (Ne.symm hki)] at hq
    by_cases hqa : q.1 = a
    · have := hD.1 k i0 q _ hq h0 hqa
      subst this
      rw [h0] at hq
      cases hq
      exact hP1 0 _ rfl
    by_cases hqa2 : q.1 = a2
    · have := hD.1 k j0 q _ hq g0 hqa2
      subst this
      rw [g0] at hq
      cases hq
      exact hP1 2 _ rfl
    by_cases hqb2 : q.1 = b2
    · have := hD.1 k j1 q _ hq g1 hqb2
      subst this
      rw [g1] at hq
      cases hq
      exact hP1 3 _ rfl
    · have hqb : q.1 ≠ b := fun e => hki (hD.1 k i1 q _ hq h1 e)
      exact (hP k q hq).kept (hk q.1 (hP k q hq).lt (rw2_notin hqa hqb hqa2 hqb2 (hP k q hq).lt))
theorem four_sub {ws : va_W} {i0 i1 i2 i3 : Nat} {x y z w : Nat × va_E} (h0 : ws[i0]? = some x) (h1 : ws[i1]? = some y) (h2 : ws[i2]? = some z) (h3 : ws[i3]? = some w) : [i0, i1, i2, i3].map (fun i => ws[i]?) = [x, y, z, w].map some := by
  simp [h0, h1, h2, h3]
section HR2
variable {p : Program} {l : Launch} {e : Env} {R : Room} {s : State} {m : MethodId} {args : Array Value} {below : List Frame} {meth : Method} {c : Code} {H : Heap} {locs : List Loc} {cells slots : Nat} {Q : State → Prop}
variable {pc : Nat} {ls : Array Slot} {rest st0 As : List Value} {A0 : Nat → Prop} {H0 : Heap} {nL index n maxL : Nat} {D : va_G} {cI cN : ClassId} {cc bytes : ByteArray} {y : MethodName} {ret : Option FieldType} {wy Ts : List Cond} {rm : Room} {own : String} {ws wf : va_W}
/-- Row.copyFrom within a world -/
theorem cRc {a b a2 b2 L i0 i1 j0 j1 : Nat} {f g : Nat → Int32} (S : CallFix p m c cc nL s args Ts own) (hM : CtV l D cI cN y wy rm 0 0 [.ref a, .ref a2] (rwW cI a b L f ++ rwW cI a2 b2 L g) H.size (rwW cI a b L g ++ rwW cI a2 b2 L g)) (cw : CallW R s args own RX4 index y bytes maxL ret wy rm 0 0 1) (hK : KN D cI cN s) (hP : va_P D vwCl ws H) (hD : va_D A0 ws) (hS : va_S A0 H0 H locs) (hA : ∀ q, H0.size ≤ q → A0 q)
    (h0 : ws[i0]? = some (a, .inr (4, [.ref b]))) (h1 : ws[i1]? = some (b, .inl (cI, L, .inl f))) (g0 : ws[j0]? = some (a2, .inr (4, [.ref b2]))) (g1 : ws[j1]? = some (b2, .inl (cI, L, .inl g))) (hnd : va_nd [i0, i1, j0, j1] = true) (hne : j1 ≠ i1) (hwf : ws.set i1 (b, .inl (cI, L, .inl g)) = wf)
    (hsz : ls.size = nL) (hst : st0 = .ref a2 :: .ref a :: rest) (hroom : (rest.map fun v => v.category).sum ≤ 8) (hdg : decode cc pc = .ok (.invokevirtual index, 3)) (hf : cells ≤ R.cells ∧ slots ≤ R.slots)
    (kk : ∀ (H1 : Heap) (locs1 : List Loc), va_P D vwCl wf H1 → va_D A0 wf → va_S A0 H0 H1 locs1 → W p l e R s m args below meth c H1 locs1 cells slots Q (F0 m (pc + 3) ls rest)) : W p l e R s m args below meth c H locs cells slots Q (F0 m pc ls st0) := by
  subst hwf
  have h4 := four_sub h0 h1 g0 g1
  have hPc : va_P D vwCl (rwW cI a b L f ++ rwW cI a2 b2 L g) H := hP.sub [i0, i1, j0, j1] (by simp [h0, h1, g0, g1]; rfl)
  have hDc : va_D (fun _ => True) (rwW cI a b L f ++ rwW cI a2 b2 L g) := (hD.sub [i0, i1, j0, j1] hnd h4).weaken (fun _ _ _ _ => trivial)
  have hFc := va_free (wc := rwW cI a b L f ++ rwW cI a2 b2 L g) hD hS hA [i0, i1, j0, j1] h4
  refine va_callv (va_runV (As := [.ref a2]) (rest := rest) S hM cw ⟨blW, va_recv hK.1 hP (ci := 4) (q0 := i0) rfl h0, fun U hU hW => ⟨rfl, by rw [hU], by rw [hU]; exact hPc, hK.warm hW, hDc⟩⟩ rfl rfl hsz hst (lv_room hroom) hdg hf) hS (fun q _ h => hFc q h) hFc (fun u t H1 locs1 ht hvm hw hB hz1 hk1 hS1 => ?_)
  obtain ⟨hP1, hD1⟩ := hB
  rw [ht] at hP1
  obtain ⟨k1, k2⟩ := back_row2 hP hD h0 h1 g0 g1 hne hk1 hP1
  exact kk H1 locs1 k1 k2 hS1
end HR2
section HGW
variable {p : Program} {l : Launch} {e : Env} {R : Room} {s : State} {m : MethodId} {args : Array Value} {below : List Frame} {meth : Method} {c : Code} {H : Heap} {locs : List Loc} {cells slots : Nat} {Q : State → Prop}
variable {cc : ByteArray} {pc : Nat} {ls : Array Slot} {rest : List Value} {D : va_G} {cl : List vw_C} {A : Nat → Prop} {a : Nat} {tys : List (ClassId × FieldType)} {ws wf : va_W} {H0 : Heap}
theorem giastw {n : Nat} {f w : Nat → Int32} {i : Int32} {x : Int32} (hw : upd f i.toNatClampNeg x = w) (hexec : p.tables.exec = Jvm.exec) (hb : c.code = cc) (hK : va_K D cl tys s) (hP : va_P D cl ws H) (hD : va_D A ws) (hS : va_S A H0 H locs) (q0 t0 : Nat) {cA : ClassId} (ha : ws[q0]? = some (a, .inl (cA, n, .inl f))) (ht : tys[t0]? = some (cA, .int)) (hin : vp_in i n) (hdg : decode cc pc = .ok (.iastore, 1)) (hwf : ws.set q0 (a, .inl (cA, n, .inl w)) = wf)
    (kk : ∀ (H1 : Heap) (locs1 : List Loc), va_P D cl wf H1 → va_D A wf → va_S A H0 H1 locs1 → W p l e R s m args below meth c H1 locs1 cells slots Q (F0 m (pc + 1) ls rest)) : W p l e R s m args below meth c H locs cells slots Q (F0 m pc ls (.int x :: .int i :: .ref a :: rest)) := by
  subst hw
  exact giast hexec hb hK hP hD hS q0 t0 ha ht hin hdg hwf kk
end HGW
