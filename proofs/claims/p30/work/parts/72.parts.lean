/-! the reference reads the parts -/
section ZY4
variable {bb : Nat → Int} {nn : Nat} {nu : Int → Int} {S : Nat} {M M0 M1 M2 M3 M4 M5 M6 : zH} {p pr en t : Nat} {ts : Nat → Nat}
def y_kp (M M1 : zH) : Prop := z_F M1 19 22 = z_F M 19 22 ∧ z_Ar M1 25 = z_Ar M 25 ∧ z_Ar M1 26 = z_Ar M 26 ∧ z_Ar M1 27 = z_Ar M 27 ∧ z_Ar M1 28 = z_Ar M 28
theorem y_st.kp (h : y_st M pr en t ts) (k : y_kp M M1) : y_st M1 pr en t ts := by
  obtain ⟨k1, k2, k3, k4, k5⟩ := k
  unfold y_st
  rw [y_rdK k1, k2, k3, k4, k5]
  exact h
theorem y_rdE {r : Int32} (hr : z_F M 19 22 = some (.int r)) : y_rd M = r.toNatClampNeg := by unfold y_rd; rw [z_Fv.of hr]; rfl
theorem y_stP {r v : Int32} (h : y_st M pr en t ts) (hr : z_F M 19 22 = some (.int r)) (hv : z_Ar M 27 r.toNatClampNeg = v) : v.toInt = (pr : Int) := by
  have e := h.1
  rw [y_rdE hr, hv] at e
  exact e
theorem y_stE {r v : Int32} (h : y_st M pr en t ts) (hr : z_F M 19 22 = some (.int r)) (hv : z_Ar M 28 r.toNatClampNeg = v) : v.toInt = (en : Int) := by
  have e := h.2.1
  rw [y_rdE hr, hv] at e
  exact e
theorem y_stT {r v : Int32} (h : y_st M pr en t ts) (hr : z_F M 19 22 = some (.int r)) (hv : z_Ar M 25 r.toNatClampNeg = v) : v.toInt = (t : Int) ∧ v.toInt ≤ 8 := by
  have e := h.2.2.1
  have e2 := h.2.2.2.1
  rw [y_rdE hr, hv] at e
  exact ⟨e, by omega⟩
theorem y_APw {x : Int} (hb : x = y_by bb nn M0) (h : (x ≠ 112 ∨ pr ≠ 0) ∧ (x ≠ 101 ∨ en ≠ 0) ∧ (x ≠ 116 ∨ 8 ≤ t)) (hF : ¬ y_ok M1) : y_AP bb nn nu M0 M1 p pr en t ts := by
  refine ⟨fun _ => hF, fun k0 k1 k2 k3 _ => Or.inl ⟨?_, hF⟩⟩
  unfold y_by at hb
  rw [k1] at hb
  refine z_ptw_none k2 k3 (fun a => ?_) (fun a => ?_) (fun a => ?_)
  · rw [if_pos a.1] at hb; omega
  · rw [if_pos a.1] at hb; omega
  · rw [if_pos a.1] at hb; omega
/-- the letter, and one step on -/
def y_ch (bb : Nat → Int) (nn : Nat) (M0 M1 : zH) (x : Int) : Prop := x = y_by bb nn M0 ∧ x ≠ 0 ∧ y_at M1 = y_at M0 + 1 ∧ (y_ok M1 ↔ y_ok M0) ∧ y_op M1 = y_op M0
theorem y_chm {x : Int} {a a2 : Int32} (hb : x = y_by bb nn M0) (hx : x ≠ 0) (ha : z_F M0 19 24 = some (.int a)) (hn : z_F M1 19 24 = some (.int a2)) (h : a2.toInt = a.toInt + 1 ∧ 0 ≤ a.toInt) (hf : z_F M1 19 26 = z_F M0 19 26) (ho : z_F M1 19 27 = z_F M0 19 27) : y_ch bb nn M0 M1 x := by
  refine ⟨hb, hx, ?_, y_okK hf, y_opK ho⟩
  rw [y_atF ha, y_atF hn]
  omega
theorem y_APs {x c : Int} (hc : y_ch bb nn M0 M1 x) (h : (x = 112 ∧ pr = 0) ∨ (x = 101 ∧ en = 0) ∨ (x = 116 ∧ t < 8)) (hP : y_PS bb nn M1 M2 32 c) (hc0 : c = 0) (hF : ¬ y_ok M3) : y_AP bb nn nu M0 M3 p pr en t ts := by
  obtain ⟨c1, c2, c3, c4, c5⟩ := hc
  obtain ⟨e1, n1⟩ := y_PS0 hP hc0
  refine ⟨fun _ => hF, fun k0 k1 k2 k3 _ => Or.inl ⟨?_, hF⟩⟩
  obtain ⟨h5, h6⟩ := y_byp c1 c2
  rw [k1] at h5 h6
  have e2 : y_at M1 = p + 2 := by omega
  rw [e2] at n1
  have n2 : ¬ (p + 2 < nn ∧ bb (p + 2) = 32) := fun a => n1 ⟨c4.mpr k0, a.1, a.2⟩
  rcases h with ⟨h, g⟩ | ⟨h, g⟩ | ⟨h, g⟩
  · rw [z_ptw_pr k2 k3 ⟨h5, by omega, g⟩, z_qs_n n2]
  · rw [z_ptw_en k2 k3 ⟨h5, by omega, g⟩, z_qs_n n2]
  · rw [z_ptw_ti k2 k3 ⟨h5, by omega, g⟩, if_neg n2]
/-- what letters gives -/
theorem y_qs {x : Int} (hQ : y_SQ bb nn nu M2 M3 x) (k0 : y_ok M2) (e : y_at M2 = p + 3) (h3 : p + 2 < nn ∧ bb (p + 2) = 32) : (z_qs bb nn nu (p + 2) = some (y_at M3, x.toNat) ∧ y_ok M3 ∧ 0 ≤ x ∧ x < 1024 ∧ p + 3 ≤ y_at M3 ∧ y_at M3 ≤ nn) ∨ (¬ y_ok M3 ∧ (z_qs bb nn nu (p + 2) = none ∨ ∃ q k, z_qs bb nn nu (p + 2) = some (q, k) ∧ q < nn ∧ bb q ≠ 59)) := by
  rw [z_qs_y h3]
  have h := hQ.2.2 k0 (by omega)
  rw [e] at h
  rcases h with ⟨a1, a2, a3, a4, a5, a6⟩ | ⟨a1, a2⟩
  · exact Or.inl ⟨a2, a1, a3, a4, a5, a6⟩
  · exact Or.inr ⟨a1, a2⟩
theorem y_APp {x c : Int} {y r : Int32} (hS : y_st M0 pr en t ts) (hc : y_ch bb nn M0 M1 x) (h : x = 112 ∧ pr = 0) (hP : y_PS bb nn M1 M2 32 c) (hc0 : c ≠ 0) (hQ : y_SQ bb nn nu M2 M3 y.toInt) (kp : y_kp M0 M3) (hr : z_F M3 19 22 = some (.int r)) (hs : z_Ar M4 27 = upd (z_Ar M3 27) r.toNatClampNeg y) (f22 : z_F M4 19 22 = z_F M3 19 22) (a25 : z_Ar M4 25 = z_Ar M3 25) (a26 : z_Ar M4 26 = z_Ar M3 26) (a28 : z_Ar M4 28 = z_Ar M3 28) (f24 : z_F M4 19 24 = z_F M3 19 24) (f26 : z_F M4 19 26 = z_F M3 19 26) (f27 : z_F M4 19 27 = z_F M3 19 27) : y_AP bb nn nu M0 M4 p pr en t ts := by
  obtain ⟨c1, c2, c3, c4, c5⟩ := hc
  obtain ⟨p1, p2, p3, p4, p5, p6⟩ := y_PS1 hP hc0
  refine ⟨fun a => absurd (c4.mp p1) a, fun k0 k1 k2 k3 k4 => ?_⟩
  obtain ⟨h5, h6⟩ := y_byp c1 c2
  rw [k1] at h5 h6
  have e2 : y_at M1 = p + 2 := by omega
  rw [e2] at p3 p4 p5
  rw [z_ptw_pr k2 k3 ⟨h5, by omega, h.2⟩]
  have er : y_rd M4 = y_rd M3 := y_rdK f22
  obtain ⟨s1, s2, s3, s4, s5, s6, s7⟩ := hS.kp kp
  rcases y_qs hQ p2 p5 ⟨p3, p4⟩ with ⟨a1, a2, a3, a4, a5, a6⟩ | ⟨a1, a2⟩
  · rw [a1]
    refine Or.inr ⟨y.toInt.toNat, en, t, ts, (y_okK f26).mpr a2, by rw [y_atK f24]; omega, by rw [y_atK f24]; exact a6, ?_, ⟨?_, ?_, ?_, s4, by omega, s6, ?_⟩, ?_⟩
    · rw [y_opK f27, hQ.2.1, p6, c5]; exact k4
    · rw [er, y_rdE hr, z_upds hs]; omega
    · rw [er, a28]; exact s2
    · rw [er, a25]; exact s3
    · rw [er, a26]; exact s7
    · rw [y_atK f24]
  · refine Or.inl ⟨?_, fun b => a1 ((y_okK f26).mp b)⟩
    rcases a2 with a2 | ⟨q, k, a2, a3, a4⟩
    · rw [a2]
    · rw [a2]
      exact z_ptw_bad a3 a4
theorem y_APe {x c : Int} {y r : Int32} (hS : y_st M0 pr en t ts) (hc : y_ch bb nn M0 M1 x) (h : x = 101 ∧ en = 0) (hP : y_PS bb nn M1 M2 32 c) (hc0 : c ≠ 0) (hQ : y_SQ bb nn nu M2 M3 y.toInt) (kp : y_kp M0 M3) (hr : z_F M3 19 22 = some (.int r)) (hs : z_Ar M4 28 = upd (z_Ar M3 28) r.toNatClampNeg y) (f22 : z_F M4 19 22 = z_F M3 19 22) (a25 : z_Ar M4 25 = z_Ar M3 25) (a26 : z_Ar M4 26 = z_Ar M3 26) (a27 : z_Ar M4 27 = z_Ar M3 27) (f24 : z_F M4 19 24 = z_F M3 19 24) (f26 : z_F M4 19 26 = z_F M3 19 26) (f27 : z_F M4 19 27 = z_F M3 19 27) : y_AP bb nn nu M0 M4 p pr en t ts := by
  obtain ⟨c1, c2, c3, c4, c5⟩ := hc
  obtain ⟨p1, p2, p3, p4, p5, p6⟩ := y_PS1 hP hc0
  refine ⟨fun a => absurd (c4.mp p1) a, fun k0 k1 k2 k3 k4 => ?_⟩
  obtain ⟨h5, h6⟩ := y_byp c1 c2
  rw [k1] at h5 h6
  have e2 : y_at M1 = p + 2 := by omega
  rw [e2] at p3 p4 p5
  rw [z_ptw_en k2 k3 ⟨h5, by omega, h.2⟩]
  have er : y_rd M4 = y_rd M3 := y_rdK f22
  obtain ⟨s1, s2, s3, s4, s5, s6, s7⟩ := hS.kp kp
  rcases y_qs hQ p2 p5 ⟨p3, p4⟩ with ⟨a1, a2, a3, a4, a5, a6⟩ | ⟨a1, a2⟩
  · rw [a1]
    refine Or.inr ⟨pr, y.toInt.toNat, t, ts, (y_okK f26).mpr a2, by rw [y_atK f24]; omega, by rw [y_atK f24]; exact a6, ?_, ⟨?_, ?_, ?_, s4, s5, by omega, ?_⟩, ?_⟩
    · rw [y_opK f27, hQ.2.1, p6, c5]; exact k4
    · rw [er, a27]; exact s1
    · rw [er, y_rdE hr, z_upds hs]; omega
    · rw [er, a25]; exact s3
    · rw [er, a26]; exact s7
    · rw [y_atK f24]
  · refine Or.inl ⟨?_, fun b => a1 ((y_okK f26).mp b)⟩
    rcases a2 with a2 | ⟨q, k, a2, a3, a4⟩
    · rw [a2]
    · rw [a2]
      exact z_ptw_bad a3 a4
theorem y_APt {x c : Int} {r a ix tv t2 : Int32} {W : (Nat → Nat) → Prop} (hS : y_st M0 pr en t ts) (hc : y_ch bb nn M0 M1 x) (h : x = 116 ∧ t < 8) (hP : y_PS bb nn M1 M2 32 c) (hc0 : c ≠ 0) (kp : y_kp M0 M2) (hr : z_F M2 19 22 = some (.int r)) (r0 : 0 ≤ r.toInt) (ha : z_F M2 19 24 = some (.int a)) (a0 : 0 ≤ a.toInt) (ht : z_Ar M2 25 r.toNatClampNeg = tv) (hix : ix.toInt = 8 * r.toInt + tv.toInt) (hs26 : z_Ar M3 26 = upd (z_Ar M2 26) ix.toNatClampNeg a) (hs25 : z_Ar M3 25 = upd (z_Ar M2 25) r.toNatClampNeg t2) (ht2 : t2.toInt = tv.toInt + 1) (f22 : z_F M3 19 22 = z_F M2 19 22) (a27 : z_Ar M3 27 = z_Ar M2 27) (a28 : z_Ar M3 28 = z_Ar M2 28) (f24 : z_F M3 19 24 = z_F M2 19 24) (f26 : z_F M3 19 26 = z_F M2 19 26) (f27 : z_F M3 19 27 = z_F M2 19 27) (hC : y_PC nn M3 M4 (z_ti bb nn (z_one bb nn nu (6 - (y_op M3).toNat)) (y_at M3)) W) (kp2 : y_kp M3 M4) : y_AP bb nn nu M0 M4 p pr en t ts := by
  obtain ⟨c1, c2, c3, c4, c5⟩ := hc
  obtain ⟨p1, p2, p3, p4, p5, p6⟩ := y_PS1 hP hc0
  refine ⟨fun a => absurd (c4.mp p1) a, fun k0 k1 k2 k3 k4 => ?_⟩
  obtain ⟨h5, h6⟩ := y_byp c1 c2
  rw [k1] at h5 h6
  have e2 : y_at M1 = p + 2 := by omega
  rw [e2] at p3 p4 p5
  rw [z_ptw_ti k2 k3 ⟨h5, by omega, h.2⟩, if_pos ⟨p3, p4⟩]
  have er : y_rd M3 = y_rd M2 := y_rdK f22
  have er2 := y_rdE hr
  obtain ⟨s1, s2, s3, s4, s5, s6, s7⟩ := hS.kp kp
  have hop : y_op M3 = 0 := by rw [y_opK f27, p6, c5]; exact k4
  have hat : y_at M3 = p + 3 := by rw [y_atK f24, p5]
  have hd : 6 - (y_op M3).toNat = 6 := by omega
  rw [hd, hat] at hC
  have htv : tv.toInt = (t : Int) := by rw [er2, ht] at s3; exact s3
  have ern : r.toNatClampNeg = r.toInt.toNat := rfl
  have eix : ix.toNatClampNeg = 8 * r.toNatClampNeg + t := by
    show ix.toInt.toNat = 8 * r.toInt.toNat + t
    omega
  have hs : y_st M3 pr en (t + 1) (fun i => if i = t then p + 3 else ts i) := by
    refine ⟨by rw [er, a27]; exact s1, by rw [er, a28]; exact s2, ?_, by omega, s5, s6, fun i hi => ?_⟩
    · rw [er, er2, z_upds hs25]; omega
    · rw [er, hs26, er2]
      show (if 8 * r.toNatClampNeg + i = ix.toNatClampNeg then a else z_Ar M2 26 (8 * r.toNatClampNeg + i)).toInt = ((if i = t then p + 3 else ts i : Nat) : Int)
      by_cases e : i = t
      · have e1 : 8 * r.toNatClampNeg + i = ix.toNatClampNeg := by omega
        rw [if_pos e1, if_pos e]
        have h9 : y_at M2 = a.toInt.toNat := y_atF ha
        omega
      · have e1 : ¬ (8 * r.toNatClampNeg + i = ix.toNatClampNeg) := by omega
        rw [if_neg e1, if_neg e, ← er2]
        exact s7 i (by omega)
  rcases hC.2 ((y_okK f26).mpr p2) (by omega) (by omega) (by omega) with ⟨a1, a2⟩ | ⟨q, f, a1, a2, a3, a4, a5⟩
  · rw [a1]
    exact Or.inl ⟨rfl, a2⟩
  · have hq := z_ti_pg (z_one_pg _) _ _ _ a1
    rw [a1]
    refine Or.inr ⟨pr, en, t + 1, _, a2, by omega, by omega, by omega, hs.kp kp2, ?_⟩
    rw [a3]
/-- where the sign before a part stood -/
def y_pp (p : Nat) : Prop := p = p
theorem y_ppI (p : Nat) : y_pp p := rfl
end ZY4
