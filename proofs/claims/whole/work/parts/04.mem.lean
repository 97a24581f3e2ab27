/-! Rows of J that read and write the named memory, make cells, call, return. -/
theorem MM.one {g : GG} {ad : AD} {C : CC} {H : Heap} (h : MM g ad C H) {j : Nat} {e : va_E} (hj : C j = some e) : va_P (gD g) vwCl [(ad j, e)] H := by
  intro k q hk
  have hz : k < 1 := (List.getElem?_eq_some_iff.mp hk).1
  obtain rfl : k = 0 := by omega
  cases hk
  exact (h.2.1 j e hj).1
theorem MM.lt {g : GG} {ad : AD} {C : CC} {H : Heap} (h : MM g ad C H) {j : Nat} {e : va_E} (hj : C j = some e) : ad j < H.size := (h.2.1 j e hj).1.lt
theorem MM.set {g : GG} {ad : AD} {C : CC} {H H1 : Heap} (h : MM g ad C H) {j : Nat} {e0 e : va_E} (hj : C j = some e0) (he : va_at (gD g) vwCl (ad j, e) H1) (z : H1.size = H.size) (oq : ∀ q : Nat, q ≠ ad j → H1[q]? = H[q]?) : MM g ad (va_up C j (some e)) H1 := by
  refine ⟨by rw [z]; exact h.1, fun i e1 hi => ?_, fun i i' a b hi hi' hii => ?_⟩
  · by_cases hij : i = j
    · subst hij
      rw [va_up_self] at hi
      cases hi
      exact ⟨he, (h.2.1 i e0 hj).2⟩
    · rw [va_up_ne _ _ hij] at hi
      obtain ⟨p1, p2⟩ := h.2.1 i e1 hi
      exact ⟨p1.kept (oq _ (fun q => hij (h.2.2 i j e1 e0 hi hj q))), p2⟩
  · have key : ∀ i a, va_up C j (some e) i = some a → ∃ a', C i = some a' := by
      intro i a hi
      by_cases hij : i = j
      · subst hij; exact ⟨_, hj⟩
      · rw [va_up_ne _ _ hij] at hi; exact ⟨_, hi⟩
    obtain ⟨a', ha'⟩ := key i a hi
    obtain ⟨b', hb'⟩ := key i' b hi'
    exact h.2.2 i i' a' b' ha' hb' hii
theorem MM.new {g : GG} {ad : AD} {C : CC} {H H1 : Heap} (h : MM g ad C H) {j : Nat} {e : va_E} (hj : C j = none) (he : va_at (gD g) vwCl (H.size, e) H1) (z : H.size ≤ H1.size) (oq : ∀ q : Nat, q < H.size → H1[q]? = H[q]?) : MM g (va_up ad j H.size) (va_up C j (some e)) H1 := by
  have key : ∀ i a, va_up C j (some e) i = some a → (i = j ∧ va_up ad j H.size i = H.size ∧ a = e) ∨ (i ≠ j ∧ C i = some a ∧ va_up ad j H.size i = ad i ∧ ad i < H.size) := by
    intro i a hi
    by_cases hij : i = j
    · subst hij
      rw [va_up_self] at hi
      cases hi
      exact Or.inl ⟨rfl, va_up_self _ _ _, rfl⟩
    · rw [va_up_ne _ _ hij] at hi
      exact Or.inr ⟨hij, hi, va_up_ne _ _ hij, h.lt hi⟩
  refine ⟨Nat.le_trans h.1 z, fun i e1 hi => ?_, fun i i' a b hi hi' hii => ?_⟩
  · rcases key i e1 hi with ⟨h1, h2, h3⟩ | ⟨h1, h2, h3, h4⟩
    · rw [h2, h3]; exact ⟨he, h.1⟩
    · rw [h3]
      exact ⟨(h.2.1 i e1 h2).1.kept (oq _ h4), (h.2.1 i e1 h2).2⟩
  · rcases key i a hi with ⟨h1, h2, h3⟩ | ⟨h1, h2, h3, h4⟩ <;> rcases key i' b hi' with ⟨k1, k2, k3⟩ | ⟨k1, k2, k3, k4⟩
    · rw [h1, k1]
    · rw [h2, k3] at hii; omega
    · rw [h3, k2] at hii; omega
    · exact h.2.2 i i' a b h2 k2 (by rw [← h3, ← k3]; exact hii)
/-- a field's link -/
def FL (own : String) (idx ci i : Nat) : Prop := ∃ q : vw_C, vwCl[ci]? = some q ∧ i < q.2.2 ∧ (∀ w ∈ u_ws q.1 q.2.1 q.2.2, w ∈ lw_tbl.filter wm_ok) ∧ (q.2.1 i).1 = q.1 ∧ (tw (.fieldLink own idx q.1 (q.2.1 i).2.1 (q.2.1 i).2.2.1) ∨ ∃ host, tw (.fieldLinkNest own idx q.1 (q.2.1 i).2.1 (q.2.1 i).2.2.1 host))
/-- a field's link, to write -/
def PL (own : String) (idx ci i : Nat) (ty : FieldType) (fin : Bool) : Prop := ∃ (q : vw_C) (ty0 : Nat → FieldType), vwCl[ci]? = some q ∧ i < q.2.2 ∧ (∀ w ∈ u_ws q.1 q.2.1 q.2.2, w ∈ lw_tbl.filter wm_ok) ∧ (q.2.1 i).1 = q.1 ∧ (∀ k, k < q.2.2 → parseFieldDescriptor (q.2.1 k).2.2.1 = some (ty0 k)) ∧ (∀ a, a < q.2.2 → ∀ b, b < q.2.2 → a ≠ b → (q.2.1 a).2.1 ≠ (q.2.1 b).2.1) ∧ (q.2.1 i).2.2.2 = fin ∧ parseFieldDescriptor (q.2.1 i).2.2.1 = some ty ∧ tw (.fieldLink own idx q.1 (q.2.1 i).2.1 (q.2.1 i).2.2.1)
theorem z_nar {v : Int32} (hn : vp_nar .boolean v = v) : narrow .boolean (.int v) = .int v := by
  have e : v &&& 1 = v := by simpa [vp_nar, narrow] using hn
  simp [narrow, e]
section JM
variable {X : CX} {g : GG} {own nm : String} {cc : ByteArray} {nL d RC RS : Nat} {ret : Option FieldType} {Q : State → Prop} {k n : Nat} {ad : AD} {C : CC} {L : List (Option Value)} {st : List Value}
theorem j_getf {pc j ci i idx : Nat} {fs : List Value} {v : Value} (h : Cx X g own nm cc nL d RC RS ret) (hd : decode cc pc = .ok (.getfield idx, 3)) (hC : C j = some (.inr (ci, fs))) (hf : FL own idx ci i) (hv : fs[i]? = some v) (kk : J X g nL Q k n ad C (pc + 3) L (v :: st)) : J X g nL Q k n ad C pc L (.ref (ad j) :: st) := by
  intro H locs ls hM hS hl hL
  obtain ⟨q, h1, h2, h3, h4, h5⟩ := hf
  rcases h5 with h5 | ⟨host, h5⟩
  · exact va_get h.1 h.2.1 (h.2.2.2.2.1.hts _) h3 h.2.2.2.1 h.2.2.2.2.1.1 (hM.one hC) 0 rfl h1 i h2 (h.2.2.2.2.1.use h5 _) (by rw [h4]; exact fun _ z => z) hv hd (kk H locs ls hM hS hl hL)
  · exact va_getN h.1 h.2.1 (h.2.2.2.2.1.hts _) h3 h.2.2.2.1 h.2.2.2.2.1.1 (hM.one hC) 0 rfl h1 i h2 (h.2.2.2.2.1.use h5 _) (by rw [h4]; exact fun _ z => z) hv hd (kk H locs ls hM hS hl hL)
theorem j_putv {pc j ci i idx : Nat} {fs : List Value} {v : Value} {ty : FieldType} (h : Cx X g own nm cc nL d RC RS ret) (hd : decode cc pc = .ok (.putfield idx, 3)) (hC : C j = some (.inr (ci, fs))) (hf : PL own idx ci i ty false) (hn : narrow ty v = v) (hfit : fits ty v = true) (hlen : i < fs.length) (kk : J X g nL Q k n ad (va_up C j (some (.inr (ci, fs.set i v)))) (pc + 3) L st) : J X g nL Q k n ad C pc L (v :: .ref (ad j) :: st) := by
  intro H locs ls hM hS hl hL
  obtain ⟨⟨Cn, T, N⟩, ty0, hc, hk, hin, hdecl, hty, hnm, hfin, hdp, hlk⟩ := hf
  have hts := h.2.2.2.2.1.hts (xa X)
  have hK := h.2.2.2.2.1.1
  have hP := hM.one hC
  have hap := va_apart (own := own) hts hin ty0 hty hnm hK hc
  obtain ⟨r, h1, cell, q1, q2, q3, q4⟩ := hP 0 _ rfl
  have hr : r = (Cn, T, N) := Option.some.inj (h1.symm.trans hc)
  subst hr
  obtain ⟨hSl, hfc, kC, hkC, hkind⟩ := hK.1 ci _ hc
  obtain ⟨cf, kf, fi, f, hi, hsl⟩ := hSl i hk
  have hlay := hts _ (hin _ (u_in_lay hk))
  unfold u_lay at hlay
  rw [if_neg (by rw [hfin]; decide)] at hlay
  have hst := (u_facts hfc hkC (u_lays hts hin hk) hi).1
  have h6 := u_store hfc hkC hkind hlay hi hdp hn hfit
  have hi' : (xs X).fieldFound? Cn (T i).2.1 (T i).2.2.1 = some (cf, kf, fi, f) := by
    have := hdecl
    simp only at this
    rw [← this]; exact hi
  refine W.putK h.1 h.2.1 (f := f) ⟨h.2.2.2.1, h.2.2.2.2.1.use hlk _, ⟨_, _, _, hi'⟩, hst⟩ (by rw [q2]; exact h6) q1 q3 (by rw [hsl]; exact k2_hasslot (q4 i hk)) rfl rfl hd fun H' e1 e2 e3 => ?_
  rw [hsl] at e1 ⊢
  exact kk H' _ ls (hM.set hC ⟨_, hc, t_OB.to (V := updV (vp_V fs) i v) ⟨_, e1, q2, q3, t_set q4 hap hk v⟩ (fun j _ => vp_updV_set hlen v j)⟩ e2 e3) (hS.put e2 e3 (hM.2.1 j _ hC).2) hl hL
theorem j_putF {pc j ci i idx : Nat} {fs : List Value} {v : Value} {ty : FieldType} (h : Cx X g own nm cc nL d RC RS ret) (hnm0 : nm = "<init>") (hd : decode cc pc = .ok (.putfield idx, 3)) (hC : C j = some (.inr (ci, fs))) (hf : PL own idx ci i ty true) (hown : (vwCl[ci]?).map (fun q => q.1) = some own) (hn : narrow ty v = v) (hfit : fits ty v = true) (hlen : i < fs.length) (kk : J X g nL Q k n ad (va_up C j (some (.inr (ci, fs.set i v)))) (pc + 3) L st) : J X g nL Q k n ad C pc L (v :: .ref (ad j) :: st) := by
  intro H locs ls hM hS hl hL
  obtain ⟨⟨Cn, T, N⟩, ty0, hc, hk, hin, hdecl, hty, hnm, hfin, hdp, hlk⟩ := hf
  have hts := h.2.2.2.2.1.hts (xa X)
  have hK := h.2.2.2.2.1.1
  have hP := hM.one hC
  have hap := va_apart (own := own) hts hin ty0 hty hnm hK hc
  obtain ⟨r, h1, cell, q1, q2, q3, q4⟩ := hP 0 _ rfl
  have hr : r = (Cn, T, N) := Option.some.inj (h1.symm.trans hc)
  subst hr
  rw [hc] at hown
  have hown' : Cn = own := Option.some.inj hown
  obtain ⟨hSl, hfc, kC, hkC, hkind⟩ := hK.1 ci _ hc
  obtain ⟨cf, kf, fi, f, hi, hsl⟩ := hSl i hk
  have hlay := hts _ (hin _ (u_in_lay hk))
  unfold u_lay at hlay
  rw [if_pos hfin] at hlay
  have hst := (u_facts hfc hkC (u_lays hts hin hk) hi).1
  have hcf : (xm X).cls = cf := by
    obtain ⟨_, _, c', _, _, _, -, -, hf', -, -, -, hown2, -⟩ := Cond.laysFinal_spec hlay
    have e1 : c' = cf := by have := hi.symm.trans hf'; simp at this; exact this.1.symm
    have hd2 : (T i).1 = own := hdecl.trans hown'
    rw [hd2] at hown2
    rw [← e1]; exact Option.some.inj (h.2.2.2.1.symm.trans hown2)
  have h6 := u_fits hfc hkC hkind (Or.inr hlay) hi hdp hn hfit
  have hi' : (xs X).fieldFound? Cn (T i).2.1 (T i).2.2.1 = some (cf, kf, fi, f) := by
    have := hdecl
    simp only at this
    rw [← this]; exact hi
  refine W.putFinK h.1 h.2.1 h.2.2.2.1 (h.2.2.2.2.1.use hlk _) hi' hst hcf (h.2.2.2.2.2.2.1.trans hnm0) (by rw [q2]; exact h6) q1 q3 (by rw [hsl]; exact k2_hasslot (q4 i hk)) rfl rfl hd fun H' e1 e2 e3 => ?_
  rw [hsl] at e1 ⊢
  exact kk H' _ ls (hM.set hC ⟨_, hc, t_OB.to (V := updV (vp_V fs) i v) ⟨_, e1, q2, q3, t_set q4 hap hk v⟩ (fun j _ => vp_updV_set hlen v j)⟩ e2 e3) (hS.put e2 e3 (hM.2.1 j _ hC).2) hl hL
theorem gT0 : (gT g)[0]? = some (gI g, .int) := rfl
theorem gT1 : (gT g)[1]? = some (gZ g, .boolean) := rfl
theorem gT2 : (gT g)[2]? = some (gJ g, .long) := rfl
theorem gT3 : (gT g)[3]? = some (gO g, .object "RoomGone$StoredFile") := rfl
theorem nI_cl {i : Nat} (h : i < 2 ^ 31) : (nI i).toNatClampNeg = i := nI_clamp h
theorem j_iald {pc j i m : Nat} {f : Nat → Int32} (h : Cx X g own nm cc nL d RC RS ret) (hd : decode cc pc = .ok (.iaload, 1)) (hC : C j = some (eI g m f)) (hi : i < m) (hm : m ≤ 100000) (kk : J X g nL Q k n ad C (pc + 1) L (.int (f i) :: st)) : J X g nL Q k n ad C pc L (.int (nI i) :: .ref (ad j) :: st) := by
  intro H locs ls hM hS hl hL
  refine va_iald h.1 h.2.1 h.2.2.2.2.1.1 (hM.one hC) 0 0 rfl gT0 (vp_in_nI hi (by omega)) hd ?_
  rw [nI_cl (by omega)]
  exact kk H locs ls hM hS hl hL
theorem j_zald {pc j i m : Nat} {f : Nat → Int32} (h : Cx X g own nm cc nL d RC RS ret) (hd : decode cc pc = .ok (.baload, 1)) (hC : C j = some (eZ g m f)) (hi : i < m) (hm : m ≤ 100000) (kk : J X g nL Q k n ad C (pc + 1) L (.int (f i) :: st)) : J X g nL Q k n ad C pc L (.int (nI i) :: .ref (ad j) :: st) := by
  intro H locs ls hM hS hl hL
  refine va_zald h.1 h.2.1 h.2.2.2.2.1.1 (hM.one hC) 0 1 rfl gT1 (vp_in_nI hi (by omega)) hd ?_
  rw [nI_cl (by omega)]
  exact kk H locs ls hM hS hl hL
theorem j_lald {pc j i m : Nat} {f : Nat → Int64} (h : Cx X g own nm cc nL d RC RS ret) (hd : decode cc pc = .ok (.laload, 1)) (hC : C j = some (eJ g m f)) (hi : i < m) (hm : m ≤ 100000) (kk : J X g nL Q k n ad C (pc + 1) L (.long (f i) :: st)) : J X g nL Q k n ad C pc L (.int (nI i) :: .ref (ad j) :: st) := by
  intro H locs ls hM hS hl hL
  refine va_lald h.1 h.2.1 h.2.2.2.2.1.1 (hM.one hC) 0 2 rfl gT2 (vp_in_nI hi (by omega)) hd ?_
  rw [nI_cl (by omega)]
  exact kk H locs ls hM hS hl hL
theorem j_aald {pc j i m : Nat} {f : Nat → Option Nat} (h : Cx X g own nm cc nL d RC RS ret) (hd : decode cc pc = .ok (.aaload, 1)) (hC : C j = some (eO g m f)) (hi : i < m) (hm : m ≤ 100000) (kk : J X g nL Q k n ad C (pc + 1) L (va_rf (f i) :: st)) : J X g nL Q k n ad C pc L (.int (nI i) :: .ref (ad j) :: st) := by
  intro H locs ls hM hS hl hL
  refine va_aldq h.1 h.2.1 h.2.2.2.2.1.1 (hM.one hC) 0 3 rfl gT3 (vp_in_nI hi (by omega)) hd ?_
  rw [nI_cl (by omega)]
  exact kk H locs ls hM hS hl hL
theorem j_iast {pc j i m : Nat} {f : Nat → Int32} {x : Int32} (h : Cx X g own nm cc nL d RC RS ret) (hd : decode cc pc = .ok (.iastore, 1)) (hC : C j = some (eI g m f)) (hi : i < m) (hm : m ≤ 100000) (kk : J X g nL Q k n ad (va_up C j (some (eI g m (upd f i x)))) (pc + 1) L st) : J X g nL Q k n ad C pc L (.int x :: .int (nI i) :: .ref (ad j) :: st) := by
  intro H locs ls hM hS hl hL
  have hin : vp_in (nI i) m := vp_in_nI hi (by omega)
  have hcl : (nI i).toNatClampNeg = i := nI_cl (by omega)
  refine W.iast h.1 h.2.1 ((hM.one hC) 0 _ rfl) ((h.2.2.2.2.1.1.2 0 _ gT0).1 m (fun j => .int (f j))) (fun q => by cases q) (by show ¬ (nI i < 0 ∨ (arrV _ _ _).slots.size ≤ _); rw [arrV_size]; exact hin) rfl rfl hd fun H1 e z oq => ?_
  refine kk H1 _ ls (hM.set hC ?_ z oq) (hS.put z oq (hM.2.1 j _ hC).2) hl hL
  show H1[ad j]? = some (vp_cell _ _)
  rw [e]
  rw [vp_cell_i, vp_cell_i, arrV_store]
  congr 2
  funext q
  rw [hcl]
  by_cases hq : q = i
  · subst hq
    simp [updV, upd]
  · simp [updV, upd, hq]
theorem j_zast {pc j i m : Nat} {f : Nat → Int32} {x : Int32} (h : Cx X g own nm cc nL d RC RS ret) (hd : decode cc pc = .ok (.bastore, 1)) (hC : C j = some (eZ g m f)) (hi : i < m) (hm : m ≤ 100000) (hx : vp_nar .boolean x = x) (kk : J X g nL Q k n ad (va_up C j (some (eZ g m (upd f i x)))) (pc + 1) L st) : J X g nL Q k n ad C pc L (.int x :: .int (nI i) :: .ref (ad j) :: st) := by
  intro H locs ls hM hS hl hL
  have hin : vp_in (nI i) m := vp_in_nI hi (by omega)
  have hcl : (nI i).toNatClampNeg = i := nI_cl (by omega)
  have e0 : upd f i x = upd f i (vp_nar .boolean x) := by rw [hx]
  rw [e0] at kk
  refine W.zast h.1 h.2.1 ((hM.one hC) 0 _ rfl) ((h.2.2.2.2.1.1.2 1 _ gT1).1 m (fun j => .int (f j))) (fun q => by cases q) (by show ¬ (nI i < 0 ∨ (arrV _ _ _).slots.size ≤ _); rw [arrV_size]; exact hin) rfl rfl hd fun H1 e z oq => ?_
  refine kk H1 _ ls (hM.set hC ?_ z oq) (hS.put z oq (hM.2.1 j _ hC).2) hl hL
  show H1[ad j]? = some (vp_cell _ _)
  rw [e]
  rw [vp_cell_i, vp_cell_i, arrV_store]
  congr 2
  funext q
  rw [hcl]
  by_cases hq : q = i
  · subst hq
    simp [updV, upd, vp_nar]
    try rfl
  · simp [updV, upd, hq]
theorem j_last {pc j i m : Nat} {f : Nat → Int64} {x : Int64} (h : Cx X g own nm cc nL d RC RS ret) (hd : decode cc pc = .ok (.lastore, 1)) (hC : C j = some (eJ g m f)) (hi : i < m) (hm : m ≤ 100000) (kk : J X g nL Q k n ad (va_up C j (some (eJ g m (vp_updL f i x)))) (pc + 1) L st) : J X g nL Q k n ad C pc L (.long x :: .int (nI i) :: .ref (ad j) :: st) := by
  intro H locs ls hM hS hl hL
  have hin : vp_in (nI i) m := vp_in_nI hi (by omega)
  have hcl : (nI i).toNatClampNeg = i := nI_cl (by omega)
  refine W.last h.1 h.2.1 ((hM.one hC) 0 _ rfl) ((h.2.2.2.2.1.1.2 2 _ gT2).1 m (fun j => .long (f j))) (fun q => by cases q) (by show ¬ (nI i < 0 ∨ (arrV _ _ _).slots.size ≤ _); rw [arrV_size]; exact hin) rfl rfl hd fun H1 e z oq => ?_
  refine kk H1 _ ls (hM.set hC ?_ z oq) (hS.put z oq (hM.2.1 j _ hC).2) hl hL
  show H1[ad j]? = some (vp_cell _ _)
  rw [e]
  rw [vp_cell_l, vp_cell_l, arrV_store]
  congr 2
  funext q
  rw [hcl]
  by_cases hq : q = i
  · subst hq
    simp [updV, vp_updL]
  · simp [updV, vp_updL, hq]
theorem j_aast {pc j i m v ci : Nat} {vs : List Value} {f : Nat → Option Nat} (h : Cx X g own nm cc nL d RC RS ret) (hd : decode cc pc = .ok (.aastore, 1)) (hC : C j = some (eO g m f)) (hv : C v = some (.inr (ci, vs))) (hc : (vwCl[ci]?).map (fun q => q.1) = some "RoomGone$StoredFile") (hi : i < m) (hm : m ≤ 100000) (kk : J X g nL Q k n ad (va_up C j (some (eO g m (va_up f i (some (ad v)))))) (pc + 1) L st) : J X g nL Q k n ad C pc L (.ref (ad v) :: .int (nI i) :: .ref (ad j) :: st) := by
  intro H locs ls hM hS hl hL
  have hin : vp_in (nI i) m := vp_in_nI hi (by omega)
  have hcl : (nI i).toNatClampNeg = i := nI_cl (by omega)
  have hlt : (nI i).toNatClampNeg < m := Nat.not_le.mp fun q => hin (Or.inr q)
  have h0 : ¬ nI i < 0 := fun q => hin (Or.inl q)
  have hK := h.2.2.2.2.1.1
  obtain ⟨r, hr, hr1⟩ : ∃ r, vwCl[ci]? = some r ∧ r.1 = "RoomGone$StoredFile" := by
    cases hq : vwCl[ci]? with
    | none => rw [hq] at hc; cases hc
    | some r => rw [hq] at hc; exact ⟨r, rfl, Option.some.inj hc⟩
  obtain ⟨r', hr', cellV, g1, g2, g3, -⟩ := (hM.one hv) 0 _ rfl
  have hcls := (hK.1 ci r hr).2
  obtain ⟨kA, comp, k1, k2, k3, -⟩ := (hK.2 3 _ gT3).2
  rw [hr1] at hcls
  have hcomp : comp = (gD g).1 ci := Option.some.inj (k3.symm.trans hcls.1)
  subst hcomp
  obtain ⟨kC, hkC, -⟩ := hcls.2
  refine W.aast h.1 h.2.1 ((hM.one hC) 0 _ rfl) (fun q h => by cases h) (fun h => by cases h) k1 k2 rfl hkC ⟨h0, by show _ < (arrV _ _ _).slots.size; rw [arrV_size]; exact hlt⟩ g1 (fun q h => by rw [g3] at h; cases h) (by rw [g2]; exact hkC) (by rw [g2]; exact va_assign hcls) rfl rfl hd fun H1 e z oq => ?_
  refine kk H1 _ ls (hM.set hC ?_ z oq) (hS.put z oq (hM.2.1 j _ hC).2) hl hL
  show H1[ad j]? = some (vp_cell _ _)
  rw [e]
  rw [vp_cell_q, vp_cell_q, arrV_store]
  congr 2
  funext q
  rw [hcl]
  by_cases hq : q = i
  · subst hq
    simp [updV, va_up, va_rf]
  · simp [updV, va_up, hq]
theorem j_aastN {pc j i m : Nat} {f : Nat → Option Nat} (h : Cx X g own nm cc nL d RC RS ret) (hd : decode cc pc = .ok (.aastore, 1)) (hC : C j = some (eO g m f)) (hi : i < m) (hm : m ≤ 100000) (kk : J X g nL Q k n ad (va_up C j (some (eO g m (va_up f i none)))) (pc + 1) L st) : J X g nL Q k n ad C pc L (.null :: .int (nI i) :: .ref (ad j) :: st) := by
  intro H locs ls hM hS hl hL
  have hin : vp_in (nI i) m := vp_in_nI hi (by omega)
  have hcl : (nI i).toNatClampNeg = i := nI_cl (by omega)
  refine va_WaastN (C := "RoomGone$StoredFile") h.1 h.2.1 ((hM.one hC) 0 _ rfl) ((h.2.2.2.2.1.1.2 3 _ gT3).1 m (fun j => va_rf (f j))) (fun h => by cases h) (by show ¬ (nI i < 0 ∨ (arrV _ _ _).slots.size ≤ _); rw [arrV_size]; exact hin) rfl rfl hd fun H1 e z oq => ?_
  refine kk H1 _ ls (hM.set hC ?_ z oq) (hS.put z oq (hM.2.1 j _ hC).2) hl hL
  show H1[ad j]? = some (vp_cell _ _)
  rw [e]
  rw [vp_cell_q, vp_cell_q, arrV_store]
  congr 2
  funext q
  rw [hcl]
  by_cases hq : q = i
  · subst hq
    simp [updV, va_up, va_rf]
  · simp [updV, va_up, hq]
/-- a new array of numbers, at the free name j -/
theorem j_newa {pc j m : Nat} {at0 : ArrayType} {ty : FieldType} {e : ClassId → va_E} {t0 : Nat} (h : Cx X g own nm cc nL d RC RS ret) (hd : decode cc pc = .ok (.newarray at0, 2)) (hj : C j = none) (hty : newarray.typeOf at0 = ty) (hw : tw (.arrayClass ty)) (cA : ClassId) (hT : (gT g)[t0]? = some (cA, ty)) (hty2 : ∀ x, ty ≠ .object x) (he : ∀ cA, ∃ a, e cA = .inl (cA, a) ∧ vp_cell cA a = arrV cA m (fun _ => defaultValue ty)) (hm : m ≤ 100000) (hbytes : componentBytes ty ≤ 8) (hc : k + 1 ≤ RC) (hs : n + m ≤ RS)
    (kk : ∀ q, J X g nL Q (k + 1) (n + m) (va_up ad j q) (va_up C j (some (e cA))) (pc + 2) L (.ref q :: st)) : J X g nL Q k n ad C pc L (.int (nI m) :: st) := by
  intro H locs ls hM hS hl hL
  subst hty
  have hK := h.2.2.2.2.1.1
  refine va_newaK h.1 h.2.1 (h.2.2.2.2.1.use hw _) rfl hd rfl (nI_pos (by omega)) (nI_cl (by omega)) (by have := Nat.mul_le_mul hm hbytes; omega) (by rw [← h.2.2.2.2.2.2.2.2.2.1]; exact hc) (by rw [← h.2.2.2.2.2.2.2.2.2.2.1]; exact hs) rfl fun H1 cA' e1 z1 o1 hAr hNm => ?_
  have hcA : cA' = cA := by
    have h2 := (hK.2 t0 _ hT).2
    have h3 : (xs X).vm.findClass ("[" ++ (newarray.typeOf at0).toString) = some cA := by
      cases at0 <;> exact h2
    exact Option.some.inj (hNm.symm.trans h3)
  subst hcA
  obtain ⟨a, ha1, ha2⟩ := he cA'
  refine kk H.size H1 locs ls (hM.new hj ?_ (by omega) o1) ⟨Nat.le_trans hS.1 (by omega), fun x h1 h2 => (o1 x (Nat.lt_of_lt_of_le h1 hS.1)).trans (hS.2.1 x h1 h2), hS.2.2⟩ hl hL
  rw [ha1]
  show H1[H.size]? = some (vp_cell _ _)
  rw [ha2]
  exact e1
theorem j_newI {pc j m : Nat} (h : Cx X g own nm cc nL d RC RS ret) (hd : decode cc pc = .ok (.newarray .int, 2)) (hj : C j = none) (hw : tw (.arrayClass .int)) (hm : m ≤ 100000) (hc : k + 1 ≤ RC) (hs : n + m ≤ RS) (kk : ∀ q, J X g nL Q (k + 1) (n + m) (va_up ad j q) (va_up C j (some (eI g m (fun _ => 0)))) (pc + 2) L (.ref q :: st)) : J X g nL Q k n ad C pc L (.int (nI m) :: st) :=
  j_newa (ty := .int) (t0 := 0) (e := fun cA => .inl (cA, m, .inl (fun _ => 0))) h hd hj rfl hw (gI g) rfl (fun x q => by cases q) (fun cA => ⟨_, rfl, rfl⟩) hm (by decide) hc hs kk
theorem j_newZ {pc j m : Nat} (h : Cx X g own nm cc nL d RC RS ret) (hd : decode cc pc = .ok (.newarray .boolean, 2)) (hj : C j = none) (hw : tw (.arrayClass .boolean)) (hm : m ≤ 100000) (hc : k + 1 ≤ RC) (hs : n + m ≤ RS) (kk : ∀ q, J X g nL Q (k + 1) (n + m) (va_up ad j q) (va_up C j (some (eZ g m (fun _ => 0)))) (pc + 2) L (.ref q :: st)) : J X g nL Q k n ad C pc L (.int (nI m) :: st) :=
  j_newa (ty := .boolean) (t0 := 1) (e := fun cA => .inl (cA, m, .inl (fun _ => 0))) h hd hj rfl hw (gZ g) rfl (fun x q => by cases q) (fun cA => ⟨_, rfl, rfl⟩) hm (by decide) hc hs kk
theorem j_newJ {pc j m : Nat} (h : Cx X g own nm cc nL d RC RS ret) (hd : decode cc pc = .ok (.newarray .long, 2)) (hj : C j = none) (hw : tw (.arrayClass .long)) (hm : m ≤ 100000) (hc : k + 1 ≤ RC) (hs : n + m ≤ RS) (kk : ∀ q, J X g nL Q (k + 1) (n + m) (va_up ad j q) (va_up C j (some (eJ g m (fun _ => 0)))) (pc + 2) L (.ref q :: st)) : J X g nL Q k n ad C pc L (.int (nI m) :: st) :=
  j_newa (ty := .long) (t0 := 2) (e := fun cA => .inl (cA, m, .inr (.inl (fun _ => 0)))) h hd hj rfl hw (gJ g) rfl (fun x q => by cases q) (fun cA => ⟨_, rfl, rfl⟩) hm (by decide) hc hs kk
/-- the array of references to files -/
theorem j_newO {pc j m idx : Nat} (h : Cx X g own nm cc nL d RC RS ret) (hd : decode cc pc = .ok (.anewarray idx, 3)) (hj : C j = none) (hw : tw (.classLink own idx "RoomGone$StoredFile")) (hw2 : tw (.arrayOver (.object "RoomGone$StoredFile"))) (hm : m ≤ 100000) (hc : k + 1 ≤ RC) (hs : n + m ≤ RS)
    (kk : ∀ q, J X g nL Q (k + 1) (n + m) (va_up ad j q) (va_up C j (some (eO g m (fun _ => none)))) (pc + 3) L (.ref q :: st)) : J X g nL Q k n ad C pc L (.int (nI m) :: st) := by
  intro H locs ls hM hS hl hL
  have hK := h.2.2.2.2.1.1
  have hcl : (nI m).toNatClampNeg = m := nI_cl (by omega)
  refine W.anew h.1 h.2.1 h.2.2.2.1 (h.2.2.2.2.1.use hw _) (h.2.2.2.2.1.use hw2 _) rfl hd rfl (nI_pos (by omega)) (by rw [hcl]; show m * 4 ≤ _; omega) (by rw [← h.2.2.2.2.2.2.2.2.2.1]; exact hc) (by rw [hcl, ← h.2.2.2.2.2.2.2.2.2.2.1]; exact hs) fun cA kA comp f1 f2 f3 f4 => ?_
  rw [hcl]
  have hcA : cA = gO g := by
    obtain ⟨kA', comp', c1', c2', c3', c4'⟩ := (hK.2 3 _ gT3).2
    exact Option.some.inj (f1.symm.trans c4')
  subst hcA
  generalize hH1 : H.push ({ cls := gO g, slots := Array.replicate m .null, vm := .none } : Cell) = H1
  have z1 : H1.size = H.size + 1 := by rw [← hH1, Array.size_push]
  have e1 : H1[H.size]? = some (arrV (gO g) m (fun _ => .null)) := by rw [← hH1, Array.getElem?_push_size, ← arrV_new]
  have o1 : ∀ q : Nat, q < H.size → H1[q]? = H[q]? := fun q hq => by rw [← hH1, Array.getElem?_push, if_neg (Nat.ne_of_lt hq)]
  refine kk H.size H1 locs ls (hM.new hj ?_ (by omega) o1) ⟨Nat.le_trans hS.1 (by omega), fun x h1 h2 => (o1 x (Nat.lt_of_lt_of_le h1 hS.1)).trans (hS.2.1 x h1 h2), hS.2.2⟩ hl hL
  show H1[H.size]? = some (vp_cell _ _)
  rw [vp_cell_q]
  exact e1
/-- a new object's links -/
def NL (own : String) (idx ci : Nat) (N : Nat) (fs : List Value) : Prop := ∃ (q : vw_C) (ty : Nat → FieldType), vwCl[ci]? = some q ∧ q.2.2 = N ∧ (∀ w ∈ u_ws q.1 q.2.1 q.2.2, w ∈ lw_tbl.filter wm_ok) ∧ (∀ k, k < q.2.2 → parseFieldDescriptor (q.2.1 k).2.2.1 = some (ty k)) ∧ tw (.classLink own idx q.1) ∧ tw (.instantiable q.1 q.2.2) ∧ tw (.initialized q.1) ∧ ∀ j, j < q.2.2 → defaultValue (ty j) = vp_V fs j
theorem j_new {pc j idx ci N : Nat} {fs : List Value} (h : Cx X g own nm cc nL d RC RS ret) (hd : decode cc pc = .ok (.new idx, 3)) (hj : C j = none) (hN : NL own idx ci N fs) (hc : k + 1 ≤ RC) (hs : n + N ≤ RS)
    (kk : ∀ q, J X g nL Q (k + 1) (n + N) (va_up ad j q) (va_up C j (some (.inr (ci, fs)))) (pc + 3) L (.ref q :: st)) : J X g nL Q k n ad C pc L st := by
  intro H locs ls hM hS hl hL
  obtain ⟨⟨Cn, T, N'⟩, ty, h1, rfl, hin, hty, w1, w2, w3, hfs⟩ := hN
  have hKK := h.2.2.2.2.1
  have hts := hKK.hts (xa X)
  have hKn := hKK.1.1 ci _ h1
  refine W.newcK h.1 h.2.1 h.2.2.2.1 (hKK.use w1 _) (hKK.use w2 _) (hKK.use w3 _) rfl hd (by rw [← h.2.2.2.2.2.2.2.2.2.1]; exact hc) (by rw [← h.2.2.2.2.2.2.2.2.2.2.1]; exact hs) hKn.2.1 rfl fun H1 kC hkC e1 z1 o1 => ?_
  refine kk H.size H1 locs ls (hM.new hj ?_ (by omega) o1) ⟨Nat.le_trans hS.1 (by omega), fun x h1 h2 => (o1 x (Nat.lt_of_lt_of_le h1 hS.1)).trans (hS.2.1 x h1 h2), hS.2.2⟩ hl hL
  exact ⟨_, h1, (u_born ty hts hin hKn hkC e1 hty).to hfs⟩
theorem j_objInit {pc idx a : Nat} (h : Cx X g own nm cc nL d RC RS ret) (hd : decode cc pc = .ok (.invokespecial idx, 3)) (hw : tw (.methodLink own idx objectInit)) (hw2 : tw (.instanceMethod objectInit)) (hw3 : tw (.code objectInit ⟨#[0xb1]⟩ 1 none)) (hd1 : 1 ≤ d) (hcat : (st.map fun v => v.category).sum ≤ 8) (kk : J X g nL Q k n ad C (pc + 3) L st) : J X g nL Q k n ad C pc L (.ref a :: st) := by
  intro H locs ls hM hS hl hL
  have hKK := h.2.2.2.2.1
  have h1 := h.2.2.2.2.2.2.2.1
  have h2 := h.2.2.2.2.2.2.2.2.1
  refine W.objInit h.1 h.2.1 h.2.2.2.1 (hKK.use hw _) (hKK.use hw2 _) (hKK.use hw3 _) rfl (by rw [h.2.2.1]; exact hl.1) rfl hd (Nat.le_trans hd1 h1) ?_ ?_
  · have := lv_room (m := xm X) (pc := pc) (ls := ls) (rest := .ref a :: st) hcat
    omega
  · exact kk H locs ls hM hS hl hL
/-- returns -/
theorem j_iret {pc : Nat} {v : Int32} {post : Option Value → AD → CC → Prop} (h : Cx X g own nm cc nL d RC RS (some .int)) (hd : decode cc pc = .ok (.ireturn, 1)) (hp : post (some (.int v)) ad C) : J X g nL (QX X g RC RS post) RC RS ad C pc L [.int v] :=
  fun H locs ls hM hS hl hL => W.iret h.1 h.2.1 h.2.2.2.2.2.2.2.2.2.2.2.1 (fun t ht hW => ⟨⟨_, _, _, rfl, hp, by rw [ht]; exact hM⟩, hS.F ht⟩) hS.2.2 hd h.2.2.2.2.2.1
theorem j_zret {pc : Nat} {v : Int32} {post : Option Value → AD → CC → Prop} (h : Cx X g own nm cc nL d RC RS (some .boolean)) (hd : decode cc pc = .ok (.ireturn, 1)) (hn : vp_nar .boolean v = v) (hp : post (some (.int v)) ad C) : J X g nL (QX X g RC RS post) RC RS ad C pc L [.int v] :=
  fun H locs ls hM hS hl hL => W.zret h.1 h.2.1 h.2.2.2.2.2.2.2.2.2.2.2.1 (z_nar hn) (fun t ht hW => ⟨⟨_, _, _, rfl, hp, by rw [ht]; exact hM⟩, hS.F ht⟩) hS.2.2 hd h.2.2.2.2.2.1
theorem j_lret {pc : Nat} {v : Int64} {post : Option Value → AD → CC → Prop} (h : Cx X g own nm cc nL d RC RS (some .long)) (hd : decode cc pc = .ok (.lreturn, 1)) (hp : post (some (.long v)) ad C) : J X g nL (QX X g RC RS post) RC RS ad C pc L [.long v] :=
  fun H locs ls hM hS hl hL => W.lret h.1 h.2.1 h.2.2.2.2.2.2.2.2.2.2.2.1 (fun t ht hW => ⟨⟨_, _, _, rfl, hp, by rw [ht]; exact hM⟩, hS.F ht⟩) hS.2.2 hd h.2.2.2.2.2.1
theorem j_vret {pc : Nat} {post : Option Value → AD → CC → Prop} (h : Cx X g own nm cc nL d RC RS none) (hd : decode cc pc = .ok (.return_, 1)) (hp : post none ad C) : J X g nL (QX X g RC RS post) RC RS ad C pc L [] :=
  fun H locs ls hM hS hl hL => W.vret h.1 h.2.1 h.2.2.2.2.2.2.2.2.2.2.2.1 (fun t ht hW => ⟨⟨_, _, _, rfl, hp, by rw [ht]; exact hM⟩, hS.F ht⟩) hS.2.2 hd h.2.2.2.2.2.1
theorem j_aret {pc : Nat} {v : Option Nat} {o : String} {post : Option Value → AD → CC → Prop} (h : Cx X g own nm cc nL d RC RS (some (.object o))) (hd : decode cc pc = .ok (.areturn, 1)) (hp : post (some (va_rf v)) ad C) : J X g nL (QX X g RC RS post) RC RS ad C pc L [va_rf v] :=
  fun H locs ls hM hS hl hL => W.aret h.1 h.2.1 h.2.2.2.2.2.2.2.2.2.2.2.1 (Or.inl ⟨_, rfl⟩) (by cases v with | none => exact Or.inl rfl | some a => exact Or.inr ⟨a, rfl⟩) (fun t ht hW => ⟨⟨_, _, _, rfl, hp, by rw [ht]; exact hM⟩, hS.F ht⟩) hS.2.2 hd h.2.2.2.2.2.1
/-- calls: links -/
def ML (own : String) (idx : Nat) (y : MethodName) (cb : ByteArray) (nb : Nat) (rb : Option FieldType) (np : Nat) : Prop :=
  (tw (.methodLink own idx y) ∨ ∃ host, tw (.methodLinkNest own idx y host)) ∧ tw (.code y cb nb rb) ∧ tw (.initialized y.cls) ∧ (y.cls ≠ "java/lang/invoke/MethodHandle" ∧ y.cls ≠ "java/lang/invoke/VarHandle" ∧ (parseMethodDescriptor y.desc).map (fun d => d.parameters.length) = some np) ∧ nb ≤ 45
def MV (own : String) (idx ci : Nat) (y : MethodName) (cb : ByteArray) (nb : Nat) (rb : Option FieldType) (np : Nat) : Prop := ML own idx y cb nb rb np ∧ tw (.instanceMethod y) ∧ tw (.selects y.cls y y) ∧ (vwCl[ci]?).map (fun q => q.1) = some y.cls
def MS (own : String) (idx : Nat) (y : MethodName) (cb : ByteArray) (nb : Nat) (rb : Option FieldType) (np : Nat) : Prop := ML own idx y cb nb rb np ∧ tw (.static y)
def MI (own : String) (idx : Nat) (y : MethodName) (cb : ByteArray) (nb : Nat) (np : Nat) : Prop := ML own idx y cb nb none np ∧ tw (.instanceMethod y) ∧ y.name = "<init>"
theorem Ct_blind {g : GG} {as : List Value} {ad : AD} {C : CC} : FrameBlind (va_Pc as (fun U => MM g ad C U.heap ∧ KK g U)) := fun a U f mk q => ⟨q.1, q.2.1, KK.warm (s := U) (U := U.calling f mk a) (State.WarmedH.refl U) q.2.2⟩
theorem j_ofRun {pc mc ms : Nat} {ls : Array Slot} {H : Heap} {locs : List Loc} {st0 rest : List Value} {a : Array Value} {post : Option Value → AD → CC → Prop}
    (hr : va_Run (xp X) (xl X) (xe X) (xR X) (xs X) (xm X) (xa X) (xb X) (xh X) (xc X) H locs k n mc ms (F0 (xm X) pc ls st0) rest (Qp g post a) (gA g)) (hS : va_S (gA g) (xs X).heap H locs)
    (kk : ∀ v ad' C' H1 locs1, post v ad' C' → MM g ad' C' H1 → va_S (gA g) (xs X).heap H1 locs1 → WX X H1 locs1 (k + mc) (n + ms) Q (F0 (xm X) (pc + 3) ls (v.toList ++ rest))) : WX X H locs k n Q (F0 (xm X) pc ls st0) := by
  intro T hT X0
  obtain ⟨v, st₀, t, T', Lc, h0, X', hLc, e1, e2, ⟨⟨v', ad', C', hv, hp, hM⟩, hz, hk⟩, stp⟩ := hr T hT X0
  cases hv
  rw [h0] at hz hk
  obtain ⟨t2, a1, b1⟩ := kk v ad' C' T'.heap (locs ++ Lc) hp (by rw [e1]; exact hM)
    ⟨Nat.le_trans hS.1 (by rw [e1]; exact hz), fun q h1 h2 => by rw [e1, hk q (Nat.lt_of_lt_of_le h1 hS.1) h2]; exact hS.2.1 q h1 h2, fun q hq => by
      rcases List.mem_append.mp hq with h | h
      · exact hS.2.2 q h
      · exact hLc q h⟩ T' rfl X'
  exact ⟨t2, stp t2 a1, b1⟩
theorem ml_ws {s : State} (hKK : KK g s) {y : MethodName} {cb : ByteArray} {nb : Nat} {rb : Option FieldType} (hw : tw (.code y cb nb rb)) : ∀ w ∈ [Cond.code y cb nb rb], ∀ (a' : Array Value) (U : State), s.WarmedH U.vm → w.before a' U = true := by
  intro w hm a' U hW
  rw [List.mem_singleton.mp hm]
  exact (KK.warm hW hKK).use hw a'
theorem j_callV {pc j idx ci np mc ms d' nb : Nat} {fs : List Value} {y : MethodName} {cb : ByteArray} {rb : Option FieldType} {As st0 rest : List Value} {post : Option Value → AD → CC → Prop} (h : Cx X g own nm cc nL d RC RS ret) (hd : decode cc pc = .ok (.invokevirtual idx, 3)) (hc : Ct (xl X) g y cb nb rb d' mc ms (.ref (ad j) :: As) ad C post) (hm : MV own idx ci y cb nb rb np) (hC : C j = some (.inr (ci, fs))) (hn : As.length = np) (hst : st0 = As.reverse ++ .ref (ad j) :: rest) (hdd : d' + 1 ≤ d) (hcat : (rest.map fun v => v.category).sum ≤ 8) (hcm : k + mc ≤ RC) (hsm : n + ms ≤ RS)
    (kk : ∀ v ad' C', post v ad' C' → J X g nL Q (k + mc) (n + ms) ad' C' (pc + 3) L (v.toList ++ rest)) : J X g nL Q k n ad C pc L st0 := by
  intro H locs ls hM hS hl hL
  have hKK := h.2.2.2.2.1
  have hfr := h.2.2.2.2.2.2.2.1
  have hlo := h.2.2.2.2.2.2.2.2.1
  obtain ⟨⟨hlk, hcode, hini, hnames, hnb⟩, hinst, hsel, hcls⟩ := hm
  have hn' : ∀ sig, parseMethodDescriptor y.desc = some sig → np = sig.parameters.length := fun sig h2 => by
    have h3 := hnames.2.2
    rw [h2] at h3
    exact (Option.some.inj h3).symm
  obtain ⟨r, hr, hr1⟩ : ∃ r, vwCl[ci]? = some r ∧ r.1 = y.cls := by
    cases hq : vwCl[ci]? with
    | none => rw [hq] at hcls; cases hcls
    | some r => rw [hq] at hcls; exact ⟨r, rfl, Option.some.inj hcls⟩
  have hrec := va_recv (q0 := 0) hKK.1 (hM.one hC) hr rfl
  rw [hr1] at hrec
  have hpre : PreV (xs X) H y.cls (ad j) (va_Pc (.ref (ad j) :: As) (fun U => MM g ad C U.heap ∧ KK g U)) As := ⟨Ct_blind, hrec, fun U hU hW => ⟨rfl, by rw [hU]; exact hM, KK.warm hW hKK⟩⟩
  have hcells : k + mc ≤ (xR X).cells ∧ n + ms ≤ (xR X).slots := ⟨by rw [← h.2.2.2.2.2.2.2.2.2.1]; exact hcm, by rw [← h.2.2.2.2.2.2.2.2.2.2.1]; exact hsm⟩
  have hrm : (rmD d' mc ms).frames + 1 ≤ (xR X).frames ∧ 8 + (nb + 11) + (rmD d' mc ms).locals ≤ (xR X).locals := ⟨Nat.le_trans hdd hfr, by show 8 + (nb + 11) + 64 * d' ≤ _; omega⟩
  have hsz : (F0 (xm X) pc ls st0).locals.size = nL := hl.1
  refine j_ofRun (rest := rest) (a := (.ref (ad j) :: As).toArray) ?_ hS (fun v ad' C' H1 locs1 hp hM1 hS1 => kk v ad' C' hp H1 locs1 ls hM1 hS1 hl hL)
  rcases hlk with hlk | ⟨host, hlk⟩
  · exact va_runV (C := y.cls) (Ts := lw_tbl.filter wm_ok) ⟨h.1, h.2.1, h.2.2.1, h.2.2.2.1, hKK.hts _⟩ hc ⟨⟨rfl, rfl, hrm.1, hrm.2, ml_ws hKK hcode, List.mem_singleton.mpr rfl, hKK.use hcode _, hKK.use hini _, ⟨hnames.1, hnames.2.1⟩, hn', hKK.use hlk _⟩, hKK.use hinst _, hKK.use hsel _⟩ hpre rfl hn hsz hst (lv_room hcat) hd hcells
  · exact va_runVN (C := y.cls) (Ts := lw_tbl.filter wm_ok) ⟨h.1, h.2.1, h.2.2.1, h.2.2.2.1, hKK.hts _⟩ hc ⟨⟨⟨rfl, rfl, hrm.1, hrm.2, ml_ws hKK hcode, List.mem_singleton.mpr rfl⟩, hKK.use hcode _, hKK.use hini _, ⟨hnames.1, hnames.2.1⟩, hn', hKK.use hlk _⟩, hKK.use hinst _, hKK.use hsel _⟩ hpre rfl hn hsz hst (lv_room hcat) hd hcells
theorem j_callS {pc idx np mc ms d' nb : Nat} {y : MethodName} {cb : ByteArray} {rb : Option FieldType} {As st0 rest : List Value} {post : Option Value → AD → CC → Prop} (h : Cx X g own nm cc nL d RC RS ret) (hd : decode cc pc = .ok (.invokestatic idx, 3)) (hc : Ct (xl X) g y cb nb rb d' mc ms As ad C post) (hm : MS own idx y cb nb rb np) (hn : As.length = np) (hst : st0 = As.reverse ++ rest) (hdd : d' + 1 ≤ d) (hcat : (rest.map fun v => v.category).sum ≤ 8) (hcm : k + mc ≤ RC) (hsm : n + ms ≤ RS)
    (kk : ∀ v ad' C', post v ad' C' → J X g nL Q (k + mc) (n + ms) ad' C' (pc + 3) L (v.toList ++ rest)) : J X g nL Q k n ad C pc L st0 := by
  intro H locs ls hM hS hl hL
  have hKK := h.2.2.2.2.1
  have hfr := h.2.2.2.2.2.2.2.1
  have hlo := h.2.2.2.2.2.2.2.2.1
  obtain ⟨⟨hlk, hcode, hini, hnames, hnb⟩, hstat⟩ := hm
  have hn' : ∀ sig, parseMethodDescriptor y.desc = some sig → np = sig.parameters.length := fun sig h2 => by
    have h3 := hnames.2.2
    rw [h2] at h3
    exact (Option.some.inj h3).symm
  have hpre : PreS (xs X) H (va_Pc As (fun U => MM g ad C U.heap ∧ KK g U)) As := ⟨Ct_blind, fun U hU hW => ⟨rfl, by rw [hU]; exact hM, KK.warm hW hKK⟩⟩
  have hcells : k + mc ≤ (xR X).cells ∧ n + ms ≤ (xR X).slots := ⟨by rw [← h.2.2.2.2.2.2.2.2.2.1]; exact hcm, by rw [← h.2.2.2.2.2.2.2.2.2.2.1]; exact hsm⟩
  have hrm : (rmD d' mc ms).frames + 1 ≤ (xR X).frames ∧ 8 + (nb + 11) + (rmD d' mc ms).locals ≤ (xR X).locals := ⟨Nat.le_trans hdd hfr, by show 8 + (nb + 11) + 64 * d' ≤ _; omega⟩
  have hsz : (F0 (xm X) pc ls st0).locals.size = nL := hl.1
  refine j_ofRun (rest := rest) (a := As.toArray) ?_ hS (fun v ad' C' H1 locs1 hp hM1 hS1 => kk v ad' C' hp H1 locs1 ls hM1 hS1 hl hL)
  rcases hlk with hlk | ⟨host, hlk⟩
  · exact va_runS (Ts := lw_tbl.filter wm_ok) ⟨h.1, h.2.1, h.2.2.1, h.2.2.2.1, hKK.hts _⟩ hc ⟨⟨rfl, rfl, hrm.1, hrm.2, ml_ws hKK hcode, List.mem_singleton.mpr rfl, hKK.use hcode _, hKK.use hini _, ⟨hnames.1, hnames.2.1⟩, hn', hKK.use hlk _⟩, hKK.use hstat _⟩ hpre rfl hn hsz hst (lv_room hcat) hd hcells
  · exact va_runSN (Ts := lw_tbl.filter wm_ok) ⟨h.1, h.2.1, h.2.2.1, h.2.2.2.1, hKK.hts _⟩ hc ⟨⟨⟨rfl, rfl, hrm.1, hrm.2, ml_ws hKK hcode, List.mem_singleton.mpr rfl⟩, hKK.use hcode _, hKK.use hini _, ⟨hnames.1, hnames.2.1⟩, hn', hKK.use hlk _⟩, hKK.use hstat _, trivial⟩ hpre rfl hn hsz hst (lv_room hcat) hd hcells
theorem j_callI {pc idx np mc ms d' nb a : Nat} {y : MethodName} {cb : ByteArray} {As st0 rest : List Value} {post : Option Value → AD → CC → Prop} (h : Cx X g own nm cc nL d RC RS ret) (hd : decode cc pc = .ok (.invokespecial idx, 3)) (hc : Ct (xl X) g y cb nb none d' mc ms (.ref a :: As) ad C post) (hm : MI own idx y cb nb np) (hn : As.length = np) (hst : st0 = As.reverse ++ .ref a :: rest) (hdd : d' + 1 ≤ d) (hcat : (rest.map fun v => v.category).sum ≤ 8) (hcm : k + mc ≤ RC) (hsm : n + ms ≤ RS)
    (kk : ∀ v ad' C', post v ad' C' → J X g nL Q (k + mc) (n + ms) ad' C' (pc + 3) L (v.toList ++ rest)) : J X g nL Q k n ad C pc L st0 := by
  intro H locs ls hM hS hl hL
  have hKK := h.2.2.2.2.1
  have hfr := h.2.2.2.2.2.2.2.1
  have hlo := h.2.2.2.2.2.2.2.2.1
  obtain ⟨⟨hlk, hcode, hini, hnames, hnb⟩, hinst, hnmi⟩ := hm
  have hn' : ∀ sig, parseMethodDescriptor y.desc = some sig → np = sig.parameters.length := fun sig h2 => by
    have h3 := hnames.2.2
    rw [h2] at h3
    exact (Option.some.inj h3).symm
  have hpre : PreS (xs X) H (va_Pc (.ref a :: As) (fun U => MM g ad C U.heap ∧ KK g U)) (.ref a :: As) := ⟨Ct_blind, fun U hU hW => ⟨rfl, by rw [hU]; exact hM, KK.warm hW hKK⟩⟩
  have hcells : k + mc ≤ (xR X).cells ∧ n + ms ≤ (xR X).slots := ⟨by rw [← h.2.2.2.2.2.2.2.2.2.1]; exact hcm, by rw [← h.2.2.2.2.2.2.2.2.2.2.1]; exact hsm⟩
  have hrm : (rmD d' mc ms).frames + 1 ≤ (xR X).frames ∧ 8 + (nb + 11) + (rmD d' mc ms).locals ≤ (xR X).locals := ⟨Nat.le_trans hdd hfr, by show 8 + (nb + 11) + 64 * d' ≤ _; omega⟩
  have hsz : (F0 (xm X) pc ls st0).locals.size = nL := hl.1
  refine j_ofRun (rest := rest) (a := (.ref a :: As).toArray) ?_ hS (fun v ad' C' H1 locs1 hp hM1 hS1 => kk v ad' C' hp H1 locs1 ls hM1 hS1 hl hL)
  rcases hlk with hlk | ⟨host, hlk⟩
  · exact va_runI (Ts := lw_tbl.filter wm_ok) ⟨h.1, h.2.1, h.2.2.1, h.2.2.2.1, hKK.hts _⟩ hc ⟨⟨rfl, rfl, hrm.1, hrm.2, ml_ws hKK hcode, List.mem_singleton.mpr rfl, hKK.use hcode _, hKK.use hini _, ⟨hnames.1, hnames.2.1⟩, hn', hKK.use hlk _⟩, hnmi, hKK.use hinst _⟩ hpre rfl hn hsz hst (lv_room hcat) hd hcells
  · exact va_runIN (Ts := lw_tbl.filter wm_ok) ⟨h.1, h.2.1, h.2.2.1, h.2.2.2.1, hKK.hts _⟩ hc ⟨⟨⟨rfl, rfl, hrm.1, hrm.2, ml_ws hKK hcode, List.mem_singleton.mpr rfl⟩, hKK.use hcode _, hKK.use hini _, ⟨hnames.1, hnames.2.1⟩, hn', hKK.use hlk _⟩, hnmi, hKK.use hinst _⟩ hpre rfl hn hsz hst (lv_room hcat) hd hcells
end JM
