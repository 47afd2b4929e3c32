/-! orders of the reference, told -/
def z_pf (q n : Nat) (p : List Nat) (v : Nat) : List (List Nat) := if p.contains v then [] else z_pm q n (p ++ [v])
theorem z_fmS {g : Nat → List (List Nat)} (b : Nat) : (List.range (b + 1)).flatMap g = (List.range b).flatMap g ++ g b := by
  rw [List.range_succ, List.flatMap_append]
  congr 1
  exact List.append_nil _
theorem z_fmM {g : Nat → List (List Nat)} {a : Nat} : ∀ {b : Nat}, a ≤ b → ((List.range a).flatMap g).length ≤ ((List.range b).flatMap g).length
  | 0, h => by
    rw [Nat.le_zero.mp h]
    exact Nat.le_refl _
  | b + 1, h => by
    by_cases c : a = b + 1
    · rw [c]
      exact Nat.le_refl _
    · have h2 := z_fmM (g := g) (a := a) (b := b) (by omega)
      rw [z_fmS, List.length_append]
      omega
theorem z_fmL {g : Nat → List (List Nat)} {b q : Nat} (h : b < q) : ((List.range b).flatMap g).length + (g b).length ≤ ((List.range q).flatMap g).length := by
  have h2 := z_fmM (g := g) (a := b + 1) (b := q) h
  rw [z_fmS, List.length_append] at h2
  exact h2
theorem z_clbd : ∀ l, l < 64 → ∀ v, v < 6 → ∀ k, k < 6 → ((Int32.ofNat l &&& (((1 : Int32) <<< (Int32.ofNat v &&& 31)) ^^^ (-1))).toInt.toNat / 2 ^ k % 2 = 1 ↔ ((Int32.ofNat l).toInt.toNat / 2 ^ k % 2 = 1 ∧ k ≠ (Int32.ofNat v).toInt.toNat)) := by decide +kernel
theorem z_clb {l v c e : Int32} (hc : c = (1 : Int32) <<< (v &&& 31)) (he : e = c ^^^ (-1)) (l0 : 0 ≤ l.toInt) (l1 : l.toInt ≤ 63) (v0 : 0 ≤ v.toInt) (v1 : v.toInt ≤ 5) {k : Nat} (hk : k < 6) : (l &&& e).toInt.toNat / 2 ^ k % 2 = 1 ↔ (l.toInt.toNat / 2 ^ k % 2 = 1 ∧ k ≠ v.toInt.toNat) := by
  obtain ⟨a, ha, rfl⟩ := z_ofn (n := 64) l0 (by omega) (by decide)
  obtain ⟨b, hb, rfl⟩ := z_ofn (n := 6) v0 (by omega) (by decide)
  rw [he, hc]
  exact z_clbd a ha b hb k hk
theorem z_pcd1 : ∀ l, l < 64 → (Int32.ofNat l).toInt ≠ 0 → 1 ≤ z_pcn (Int32.ofNat l).toInt := by decide +kernel
theorem z_pcp {x : Int32} (h : 0 ≤ x.toInt) (h2 : x.toInt ≤ 63) (h3 : x.toInt ≠ 0) : 1 ≤ z_pcn x.toInt := by
  obtain ⟨l, hl, rfl⟩ := z_ofn (n := 64) h (by omega) (by decide)
  exact z_pcd1 l hl h3
theorem z_pcq {q : Nat} (q6 : q ≤ 6) : z_pcn (((2 ^ q : Nat) : Int) - 1) = (q : Int) := by
  have h : ∀ q : Nat, q < 7 → z_pcn (((2 ^ q : Nat) : Int) - 1) = (q : Int) := by decide +kernel
  exact h q (by omega)
theorem z_allb2 {q k : Nat} (q6 : q ≤ 6) (hk : k < 6) : (2 ^ q - 1) / 2 ^ k % 2 = 1 ↔ k < q := by
  have h : ∀ q, q < 7 → ∀ k, k < 6 → ((2 ^ q - 1) / 2 ^ k % 2 = 1 ↔ k < q) := by decide +kernel
  exact h q (by omega) k hk
theorem z_gdA {l : List Nat} {v i : Nat} : (l ++ [v]).getD i 0 = if i = l.length then v else l.getD i 0 := by
  rw [List.getD_eq_getElem?_getD, List.getD_eq_getElem?_getD, List.getElem?_append]
  by_cases c : i = l.length
  · rw [if_pos c, if_neg (by omega), c, Nat.sub_self]
    rfl
  · rw [if_neg c]
    by_cases d : i < l.length
    · rw [if_pos d]
    · rw [if_neg d, List.getElem?_eq_none (by rw [List.length_cons, List.length_nil]; omega), List.getElem?_eq_none (by omega)]
theorem z_dgK2 {l : List Nat} (hl : l.length ≤ 5) (h : ∀ v, v ∈ l → v < 10) : z_dgt l < 100000 := Nat.lt_of_lt_of_le (z_dgB h) (Nat.pow_le_pow_right (n := 10) (by decide) hl)
def zY275 (T : List zK) (N : Nat) : Prop := ∀ {d : Nat} {K : Option Value → zH → Prop} {p1 p2 p3 p4 : Int32} {M0 : zH} {a q m pr en n mm : Nat} {B : Nat → Nat} {av sv fm ff : Int32} {pre : List Nat} {L : Nat → Int} {Y : List Nat → Prop} (hR : z_RP T M0 a q m pr en B av sv) (q6 : q ≤ 6) (hp : (pre.length : Int) = p1.toInt) (hn : z_pcn p2.toInt = (n : Int)) (hpn : pre.length + n = q) (hb : ∀ v, v < q → (p2.toInt.toNat / 2 ^ v % 2 = 1 ↔ ¬ v ∈ pre)) (hlq : ∀ v, v ∈ pre → v < q) (ho : ∀ i, i < pre.length → (z_Ar M0 42 i).toInt = ((pre.getD i 0 : Nat) : Int)) (u4q : p4.toInt < (q : Int)) (hdg : p3.toInt = (z_dgt pre : Int)) (h44 : z_F M0 19 44 = some (.int fm)) (h45 : z_F M0 19 45 = some (.int ff)) (hfm : fm.toInt = (mm : Int)) (hfb : mm + (z_pm q (n) pre).length ≤ 2147483647) (hL : z_LV M0 sv = L) (hY : z_isY Y B q L p4.toInt.toNat) (u1 : 0 ≤ p1.toInt ∧ p1.toInt ≤ 6) (u2 : 0 ≤ p2.toInt ∧ p2.toInt ≤ 63) (u4 : 0 ≤ p4.toInt ∧ p4.toInt ≤ 9) (hm : p2.toInt < (N : Int)) (hd : p2.toInt ≤ (d : Int)) (kk : ∀ (M1 : zH) (fm1 ff1 : Int32) (m1 : Nat), z_X T zw275 M0 M1 → z_F M1 19 44 = some (.int fm1) → z_F M1 19 45 = some (.int ff1) → fm1.toInt = (m1 : Int) → z_tr Y (z_pm q (n) pre) mm ff.toInt m1 ff1.toInt → (∀ i, i < pre.length → z_Ar M1 42 i = z_Ar M0 42 i) → K none M1), z_ev (d + 12) 275 0 [some (.ref 19), some (.int p1), some (.int p2), some (.int p3), some (.int p4), none] [] M0 K
theorem zUB275 {T : List zK} {d : Nat} {K : Option Value → zH → Prop} {p1 p2 p3 p4 : Int32} {M0 : zH} {a q m pr en n mm : Nat} {B : Nat → Nat} {av sv fm ff : Int32} {pre : List Nat} {L : Nat → Int} {Y : List Nat → Prop} (hR : z_RP T M0 a q m pr en B av sv) (q6 : q ≤ 6) (hp : (pre.length : Int) = p1.toInt) (hn : z_pcn p2.toInt = ((n + 1 : Nat) : Int)) (hpn : pre.length + (n + 1) = q) (hb : ∀ v, v < q → (p2.toInt.toNat / 2 ^ v % 2 = 1 ↔ ¬ v ∈ pre)) (hlq : ∀ v, v ∈ pre → v < q) (ho : ∀ i, i < pre.length → (z_Ar M0 42 i).toInt = ((pre.getD i 0 : Nat) : Int)) (u4q : p4.toInt < (q : Int)) (hdg : p3.toInt = (z_dgt pre : Int)) (h44 : z_F M0 19 44 = some (.int fm)) (h45 : z_F M0 19 45 = some (.int ff)) (hfm : fm.toInt = (mm : Int)) (hfb : mm + (z_pm q (n + 1) pre).length ≤ 2147483647) (hL : z_LV M0 sv = L) (hY : z_isY Y B q L p4.toInt.toNat) (u1 : 0 ≤ p1.toInt ∧ p1.toInt ≤ 6) (u2 : 0 ≤ p2.toInt ∧ p2.toInt ≤ 63) (u4 : 0 ≤ p4.toInt ∧ p4.toInt ≤ 9) {N : Nat} (ih275 : zY275 T N) (hm : p2.toInt < (N : Int) + 1) (hd : p2.toInt ≤ (d : Int)) (kk : ∀ (M1 : zH) (fm1 ff1 : Int32) (m1 : Nat), z_X T zw275 M0 M1 → z_F M1 19 44 = some (.int fm1) → z_F M1 19 45 = some (.int ff1) → fm1.toInt = (m1 : Int) → z_tr Y (z_pm q (n + 1) pre) mm ff.toInt m1 ff1.toInt → (∀ i, i < pre.length → z_Ar M1 42 i = z_Ar M0 42 i) → K none M1) : ∀ nn : Nat, (∀ (M : zH) (b5 fb gb : Int32) (mb : Nat), z_X T zw275 M0 M → 1 ≤ p2.toInt ∧ p2.toInt ≤ 63 → 0 ≤ b5.toInt ∧ b5.toInt ≤ 6 → b5.toInt ≤ (q : Int) → z_F M 19 44 = some (.int fb) → z_F M 19 45 = some (.int gb) → fb.toInt = (mb : Int) → z_tr Y ((List.range b5.toInt.toNat).flatMap (z_pf q n pre)) mm ff.toInt mb gb.toInt → (∀ i, i < pre.length → z_Ar M 42 i = z_Ar M0 42 i) → ((0) * 2 + 0) * 7 + (6 - b5.toInt) < (nn : Int) → z_ev (d + 12) 275 65 [some (.ref 19), some (.int p1), some (.int p2), some (.int p3), some (.int p4), some (.int b5)] [] M K) := by
  intro nn
  induction nn with
  | zero => exact by intros; exfalso; omega
  | succ nn ih =>
    intro M b5 fb gb mb X hh0 hh1 hbq hf44 hf45 hmb hT hO hE
    have hRM := hR.ke X (by decide)
    obtain ⟨hW, ⟨hb9, ea, a8⟩, ⟨hs, hsv⟩, ⟨q1, q10⟩, ⟨t, hG⟩, hm0, hans, hok⟩ := id hRM
    have hW0 := hR.1
    have hG0 := hG.1
    have eP : z_pm q (n + 1) pre = (List.range q).flatMap (z_pf q n pre) := rfl
    refine z_xP zt275 30 68 [some (.ref 19), some (.int p1), some (.int p2), some (.int p3), some (.int p4), some (.int b5)] [.ref 19, .int b5] rfl rfl ?_
    have f19 : T[19]? = some (.inl (12, 0, 0, 0, 0)) := X.1.k rfl (by decide)
    refine z_xgX (b := 24) zt275 31 rfl zo275 zzf12_22 X f19 (by decide) (by decide) rfl ?_
    refine z_xP zt275 32 72 [some (.ref 19), some (.int p1), some (.int p2), some (.int p3), some (.int p4), some (.int b5)] [.ref 19, .ref 24, .int b5] rfl rfl ?_
    refine z_xgv zt275 33 rfl zo275 zzf12_242 X f19 (by decide) hb9 ?_
    have f24 : T[24]? = some (.inr (24, 0, 8, 0, 10)) := X.1.k rfl (by decide)
    refine z_xil zt275 34 rfl X f24 (by decide) (by omega) (by omega) (fun (x1 : Int32) h2 (h3 : 0 ≤ x1.toInt) (h4 : x1.toInt ≤ 10) => ?_)
    have h5 : x1.toInt = (q : Int) := by
      rw [← h2, z_tnA ea]
      exact hG0
    refine z_xJ zt275 35 rfl rfl (fun (h6 : x1.toInt ≤ b5.toInt) => ?_) (fun (h6 : b5.toInt < x1.toInt) => ?_)
    · skip
      exact z_xrv zt275 61 rfl zzr275 (kk M fb gb mb X hf44 hf45 hmb (by rw [show b5.toInt.toNat = q by omega] at hT; exact hT) hO)
    refine z_xP zt275 36 82 [some (.ref 19), some (.int p1), some (.int p2), some (.int p3), some (.int p4), some (.int b5)] [.int b5, .int p2] rfl rfl ?_
    refine z_xI zt275 37 rfl rfl (fun (x7 : Int32) (h8 : x7 = p2 >>> (b5 &&& 31) ∧ 0 ≤ x7.toInt ∧ x7.toInt ≤ p2.toInt) => ?_) (⟨rfl, z_pShrN rfl (by omega)⟩)
    refine z_xP zt275 38 84 [some (.ref 19), some (.int p1), some (.int p2), some (.int p3), some (.int p4), some (.int b5)] [.int 1, .int x7] rfl rfl ?_
    refine z_xI zt275 39 rfl rfl (fun (x9 : Int32) (h10 : x9 = x7 &&& 1 ∧ 0 ≤ x9.toInt ∧ x9.toInt ≤ 1) => ?_) (⟨rfl, z_pAnd rfl (by omega)⟩)
    have hbit : x9.toInt = 1 ↔ p2.toInt.toNat / 2 ^ b5.toInt.toNat % 2 = 1 := z_b01h (z_sbit h8.1 h10.1 (by omega) ⟨by omega, by omega⟩)
    have hbv := hb b5.toInt.toNat (by omega)
    refine z_xP zt275 40 86 [some (.ref 19), some (.int p1), some (.int p2), some (.int p3), some (.int p4), some (.int b5)] [.int 1, .int x9] rfl rfl ?_
    refine z_xJ zt275 41 rfl rfl (fun (h11 : x9.toInt ≠ 1) => ?_) (fun (h11 : x9.toInt = 1) => ?_)
    · skip
      refine z_xN zt275 59 rfl rfl (fun (x12 : Int32) (h13 : x12.toInt = b5.toInt + 1) => ?_) (z_pAdd rfl rfl (by omega) (by omega))
      show z_ev (d + 12) 275 124 [some (.ref 19), some (.int p1), some (.int p2), some (.int p3), some (.int p4), some (.int x12)] [] M _
      refine z_xP zt275 60 65 [some (.ref 19), some (.int p1), some (.int p2), some (.int p3), some (.int p4), some (.int x12)] [] rfl rfl ?_
      have es : x12.toInt.toNat = b5.toInt.toNat + 1 := by omega
      have hin : b5.toInt.toNat ∈ pre := Classical.byContradiction fun h => h11 (hbit.mpr (hbv.mpr h))
      have ef : z_pf q n pre b5.toInt.toNat = [] := by
        unfold z_pf
        rw [if_pos (List.contains_iff_mem.mpr hin)]
      exact ih M x12 fb gb mb X ⟨by omega, by omega⟩ ⟨by omega, by omega⟩ (by omega) hf44 hf45 hmb (by rw [es, z_fmS, ef, List.append_nil]; exact hT) hO (by omega)
    refine z_xP zt275 42 90 [some (.ref 19), some (.int p1), some (.int p2), some (.int p3), some (.int p4), some (.int b5)] [.ref 19] rfl rfl ?_
    refine z_xgX (b := 42) zt275 43 rfl zo275 zzf12_76 X f19 (by decide) (by decide) rfl ?_
    refine z_xP zt275 44 96 [some (.ref 19), some (.int p1), some (.int p2), some (.int p3), some (.int p4), some (.int b5)] [.int b5, .int p1, .ref 42] rfl rfl ?_
    have f42 : T[42]? = some (.inr (42, 0, 10, 0, 9)) := X.1.k rfl (by decide)
    refine z_xis zt275 45 rfl X f42 (by decide) (by decide) (by omega) (by omega) (by omega) (by omega) (by decide) (fun M14 X15 e16 h17 => ?_)
    refine z_xP zt275 46 100 [some (.ref 19), some (.int p1), some (.int p2), some (.int p3), some (.int p4), some (.int b5)] [.int 1, .int p1, .ref 19] rfl rfl ?_
    refine z_xI zt275 47 rfl rfl (fun (x18 : Int32) (h19 : x18.toInt = p1.toInt + 1) => ?_) (z_pAdd rfl rfl (by omega) (by omega))
    refine z_xP zt275 48 105 [some (.ref 19), some (.int p1), some (.int p2), some (.int p3), some (.int p4), some (.int b5)] [.int b5, .int 1, .int p2, .int x18, .ref 19] rfl rfl ?_
    refine z_xI zt275 49 rfl rfl (fun (x20 : Int32) (h21 : x20 = (1 : Int32) <<< (b5 &&& 31)) => ?_) (rfl)
    refine z_xP zt275 50 107 [some (.ref 19), some (.int p1), some (.int p2), some (.int p3), some (.int p4), some (.int b5)] [.int (-1), .int x20, .int p2, .int x18, .ref 19] rfl rfl ?_
    refine z_xI zt275 51 rfl rfl (fun (x22 : Int32) (h23 : x22 = x20 ^^^ (-1)) => ?_) (rfl)
    refine z_xI zt275 52 rfl rfl (fun (x24 : Int32) (h25 : x24 = p2 &&& x22 ∧ 0 ≤ x24.toInt ∧ x24.toInt < p2.toInt ∧ z_pcn x24.toInt + 1 = z_pcn p2.toInt ∧ 0 ≤ z_pcn x24.toInt) => ?_) (⟨rfl, z_clr h8.1 h10.1 (by omega) h21 h23 (by omega) (by omega) (by omega) (by omega)⟩)
    refine z_xP zt275 53 112 [some (.ref 19), some (.int p1), some (.int p2), some (.int p3), some (.int p4), some (.int b5)] [.int p3, .int 10, .int x24, .int x18, .ref 19] rfl rfl ?_
    have h26 := z_b32 p3
    have hK := z_dgK2 (l := pre) (by omega) (fun v hv => by have := hlq v hv; omega)
    refine z_xI zt275 54 rfl rfl (fun (x27 : Int32) (h27 : x27.toInt = 10 * p3.toInt) => ?_) (z_pMul rfl rfl (by omega) (by omega))
    refine z_xP zt275 55 115 [some (.ref 19), some (.int p1), some (.int p2), some (.int p3), some (.int p4), some (.int b5)] [.int b5, .int x27, .int x24, .int x18, .ref 19] rfl rfl ?_
    have h29 := z_b32 x27
    refine z_xI zt275 56 rfl rfl (fun (x30 : Int32) (h30 : x30.toInt = x27.toInt + b5.toInt) => ?_) (z_pAdd rfl rfl (by omega) (by omega))
    refine z_xP zt275 57 118 [some (.ref 19), some (.int p1), some (.int p2), some (.int p3), some (.int p4), some (.int b5)] [.int p4, .int x30, .int x24, .int x18, .ref 19] rfl rfl ?_
    obtain ⟨d32, hdd32⟩ : ∃ e, d = e + 1 := ⟨d - 1, by omega⟩
    subst hdd32
    refine z_xcV (vs := [.ref 19, .int x18, .int x24, .int x30, .int p4]) (r := []) (L2 := [some (.ref 19), some (.int x18), some (.int x24), some (.int x30), some (.int p4), none]) zt275 58 rfl zo275 zzcV12_377 (Or.inl rfl) rfl X15 f19 rfl rfl rfl (Nat.le_of_ble_eq_true rfl) zzm275 (Nat.le_of_ble_eq_true rfl) rfl ?_
    have h33 := z_b32 x30
    have hnin : ¬ b5.toInt.toNat ∈ pre := hbv.mp (hbit.mp h11)
    have ef : z_pf q n pre b5.toInt.toNat = z_pm q n (pre ++ [b5.toInt.toNat]) := by
      unfold z_pf
      rw [if_neg (fun h => hnin (List.contains_iff_mem.mp h))]
    have hlen : (pre ++ [b5.toInt.toNat]).length = pre.length + 1 := by rw [List.length_append]; rfl
    have hmono := z_fmL (g := z_pf q n pre) (b := b5.toInt.toNat) (q := q) (by omega)
    rw [ef, ← eP] at hmono
    have hmb2 := z_trM hT
    refine ih275 (n := n) (mm := mb) (pre := pre ++ [b5.toInt.toNat]) (fm := fb) (ff := gb) (L := L) (Y := Y) (hR.ke X15 (by decide)) q6 (by rw [hlen]; omega) (by omega) (by rw [hlen]; omega) (fun v hv => ?_) (fun v hv => ?_) (fun i hi => ?_) u4q (by rw [z_dgA]; omega) (e16.f f19 (by decide) hf44) (e16.f f19 (by decide) hf45) hmb (by omega) ((z_LV.ke hW0 X15 (by decide)).trans hL) hY (by omega) (by omega) (by omega) (by omega) (by omega) (fun M36 fm1 ff1 m1 X37 h39 h40 h41 hT1 hO1 => ?_)
    · rw [h25.1, z_clb h21 h23 (by omega) (by omega) (by omega) (by omega) (by omega), hb v hv]
      constructor
      · rintro ⟨g1, g2⟩ g3
        rcases List.mem_append.mp g3 with g3 | g3
        · exact g1 g3
        · exact g2 (List.mem_singleton.mp g3)
      · exact fun g => ⟨fun g1 => g (List.mem_append_left _ g1), fun g1 => g (List.mem_append_right _ (List.mem_singleton.mpr g1))⟩
    · rcases List.mem_append.mp hv with g | g
      · exact hlq v g
      · rw [List.mem_singleton.mp g]
        omega
    · rw [z_gdA, h17]
      show (if i = p1.toInt.toNat then b5 else z_Ar M 42 i).toInt = _
      by_cases ci : i = pre.length
      · rw [if_pos ci, if_pos (by omega)]
        omega
      · rw [if_neg ci, if_neg (by omega), hO i (by omega)]
        exact ho i (by omega)
    have X42 := X15.go X37 (z_sb (by decide))
    show z_ev (d32 + 1 + 12) 275 121 [some (.ref 19), some (.int p1), some (.int p2), some (.int p3), some (.int p4), some (.int b5)] [] M36 _
    refine z_xN zt275 59 rfl rfl (fun (x44 : Int32) (h45 : x44.toInt = b5.toInt + 1) => ?_) (z_pAdd rfl rfl (by omega) (by omega))
    show z_ev (d32 + 1 + 12) 275 124 [some (.ref 19), some (.int p1), some (.int p2), some (.int p3), some (.int p4), some (.int x44)] [] M36 _
    refine z_xP zt275 60 65 [some (.ref 19), some (.int p1), some (.int p2), some (.int p3), some (.int p4), some (.int x44)] [] rfl rfl ?_
    have es : x44.toInt.toNat = b5.toInt.toNat + 1 := by omega
    exact ih M36 x44 fm1 ff1 m1 X42 ⟨by omega, by omega⟩ ⟨by omega, by omega⟩ (by omega) h39 h40 h41 (by rw [es, z_fmS, ef]; exact z_trA.mpr ⟨_, _, hT, hT1⟩) (fun i hi => by
      rw [hO1 i (by omega), h17]
      show (if i = p1.toInt.toNat then b5 else z_Ar M 42 i) = _
      rw [if_neg (by omega)]
      exact hO i hi) (by omega)
theorem zUC275r {T : List zK} {d : Nat} {K : Option Value → zH → Prop} {p1 p2 p3 p4 : Int32} {M0 : zH} {a q m pr en n mm : Nat} {B : Nat → Nat} {av sv fm ff : Int32} {pre : List Nat} {L : Nat → Int} {Y : List Nat → Prop} (hR : z_RP T M0 a q m pr en B av sv) (q6 : q ≤ 6) (hp : (pre.length : Int) = p1.toInt) (hn : z_pcn p2.toInt = (n : Int)) (hpn : pre.length + n = q) (hb : ∀ v, v < q → (p2.toInt.toNat / 2 ^ v % 2 = 1 ↔ ¬ v ∈ pre)) (hlq : ∀ v, v ∈ pre → v < q) (ho : ∀ i, i < pre.length → (z_Ar M0 42 i).toInt = ((pre.getD i 0 : Nat) : Int)) (u4q : p4.toInt < (q : Int)) (hdg : p3.toInt = (z_dgt pre : Int)) (h44 : z_F M0 19 44 = some (.int fm)) (h45 : z_F M0 19 45 = some (.int ff)) (hfm : fm.toInt = (mm : Int)) (hfb : mm + (z_pm q (n) pre).length ≤ 2147483647) (hL : z_LV M0 sv = L) (hY : z_isY Y B q L p4.toInt.toNat) (u1 : 0 ≤ p1.toInt ∧ p1.toInt ≤ 6) (u2 : 0 ≤ p2.toInt ∧ p2.toInt ≤ 63) (u4 : 0 ≤ p4.toInt ∧ p4.toInt ≤ 9) {N : Nat} (ih275 : zY275 T N) (hm : p2.toInt < (N : Int) + 1) (hd : p2.toInt ≤ (d : Int)) (kk : ∀ (M1 : zH) (fm1 ff1 : Int32) (m1 : Nat), z_X T zw275 M0 M1 → z_F M1 19 44 = some (.int fm1) → z_F M1 19 45 = some (.int ff1) → fm1.toInt = (m1 : Int) → z_tr Y (z_pm q (n) pre) mm ff.toInt m1 ff1.toInt → (∀ i, i < pre.length → z_Ar M1 42 i = z_Ar M0 42 i) → K none M1) : z_ev (d + 12) 275 0 [some (.ref 19), some (.int p1), some (.int p2), some (.int p3), some (.int p4), none] [] M0 K := by
  obtain ⟨hW, ⟨hb9, ea, a8⟩, ⟨hs, hsv⟩, ⟨q1, q10⟩, ⟨t, hG⟩, hm0, hans, hok⟩ := id hR
  have X : z_X T zw275 M0 M0 := .refl hW
  refine z_xP zt275 0 1 [some (.ref 19), some (.int p1), some (.int p2), some (.int p3), some (.int p4), none] [.int p2] rfl rfl ?_
  refine z_xZ zt275 1 rfl rfl (fun (h1 : p2.toInt ≠ 0) => ?_) (fun (h1 : p2.toInt = 0) => ?_)
  · skip
    refine z_xP zt275 29 65 [some (.ref 19), some (.int p1), some (.int p2), some (.int p3), some (.int p4), some (.int 0)] [] rfl rfl ?_
    have f19 : T[19]? = some (.inl (12, 0, 0, 0, 0)) := X.1.k rfl (by decide)
    have f24 : T[24]? = some (.inr (24, 0, 8, 0, 10)) := X.1.k rfl (by decide)
    have q0 : ((0 : Int32)).toInt = 0 := rfl
    have h1p := z_pcp (x := p2) (by omega) (by omega) h1
    obtain ⟨n, rfl⟩ : ∃ k, n = k + 1 := ⟨n - 1, by omega⟩
    exact (zUB275 hR q6 hp hn hpn hb hlq ho u4q hdg h44 h45 hfm hfb hL hY u1 u2 u4 ih275 hm hd kk 14) M0 (0) fm ff mm X ⟨by omega, by omega⟩ (by decide) (by omega) h44 h45 hfm ⟨rfl, rfl⟩ (fun _ _ => rfl) (by omega)
  refine z_xP zt275 2 6 [some (.ref 19), some (.int p1), some (.int p2), some (.int p3), some (.int p4), none] [.int 0, .ref 19] rfl rfl ?_
  have f19 : T[19]? = some (.inl (12, 0, 0, 0, 0)) := X.1.k rfl (by decide)
  have q0 : ((0 : Int32)).toInt = 0 := rfl
  have n0 : n = 0 := by
    have e : z_pcn (0 : Int) = 0 := rfl
    rw [h1, e] at hn
    omega
  subst n0
  have hpl : pre.length = q := by omega
  have f42 : T[42]? = some (.inr (42, 0, 10, 0, 9)) := X.1.k rfl (by decide)
  refine z_xpf zt275 3 rfl zo275 zzf12_275 X f19 (by decide) (by decide) ⟨by omega, by omega⟩ rfl (by decide) zw12_34 (fun M2 X3 e4 h5 => ?_)
  refine z_xP zt275 4 11 [some (.ref 19), some (.int p1), some (.int p2), some (.int p3), some (.int p4), none] [.int 0, .ref 19] rfl rfl ?_
  have q0 : ((0 : Int32)).toInt = 0 := rfl
  refine z_xpf zt275 5 rfl zo275 zzf12_278 X3 f19 (by decide) (by decide) ⟨by omega, by omega⟩ rfl (by decide) zw12_35 (fun M6 X7 e8 h9 => ?_)
  refine z_xP zt275 6 16 [some (.ref 19), some (.int p1), some (.int p2), some (.int p3), some (.int p4), none] [.int (-1), .ref 19] rfl rfl ?_
  refine z_xcV (vs := [.ref 19, .int (-1)]) (r := []) (L2 := [some (.ref 19), some (.int (-1)), none, none, none, none]) zt275 7 rfl zo275 zzcV12_297 (Or.inl rfl) rfl X7 f19 rfl rfl rfl (Nat.le_of_ble_eq_true rfl) zzm246 (Nat.le_of_ble_eq_true rfl) rfl ?_
  have qm1 : (((-1) : Int32)).toInt = (-1) := rfl
  have qm1 : (((-1) : Int32)).toInt = (-1) := rfl
  refine zUC246 (oo := fun i => pre.getD i 0) (hR.ke X7 (by decide)) (by decide) (e8.f f19 (by decide) h5) h9 (fun i hi => ?_) (fun i hi => z_gdM hpl hlq hi) (fun M10 yv nv X11 hyv hnv hyn hT => ?_)
  · rw [e8.a f42 (by decide), e4.a f42 (by decide)]
    exact ho i (by omega)
  have hLM : z_LV M6 sv = L := (z_LV.ke hW X7 (by decide)).trans hL
  rw [hLM] at hT
  have hyl := hY pre hpl hlq _ _ (z_tuC q _ _ (fun _ _ => rfl) (fun k _ => ⟨fun a => (by
    have := a.1.1
    have e : ((-1 : Int32)).toInt = -1 := rfl
    omega), fun a => a.elim⟩) hT)
  have hf44 : z_F M10 19 44 = some (.int fm) := X11.2.f f19 (by decide) (e8.f f19 (by decide) (e4.f f19 (by decide) h44))
  have hf45 : z_F M10 19 45 = some (.int ff) := X11.2.f f19 (by decide) (e8.f f19 (by decide) (e4.f f19 (by decide) h45))
  have hO : ∀ i, i < pre.length → z_Ar M10 42 i = z_Ar M0 42 i := fun i _ => (congrFun (X11.2.a f42 (by decide)) i).trans ((congrFun (e8.a f42 (by decide)) i).trans (congrFun (e4.a f42 (by decide)) i))
  have X12 := X7.go X11 (z_sb (by decide))
  show z_ev (d + 12) 275 19 [some (.ref 19), some (.int p1), some (.int p2), some (.int p3), some (.int p4), none] [] M10 _
  refine z_xP zt275 8 20 [some (.ref 19), some (.int p1), some (.int p2), some (.int p3), some (.int p4), none] [.ref 19] rfl rfl ?_
  refine z_xgv zt275 9 rfl zo275 zzf12_275 X12 f19 (by decide) hyv ?_
  refine z_xP zt275 10 25 [some (.ref 19), some (.int p1), some (.int p2), some (.int p3), some (.int p4), none] [.int p4, .int yv] rfl rfl ?_
  have h18 := z_b32 yv
  refine z_xI zt275 11 rfl rfl (fun (x19 : Int32) (h19 : x19 = yv >>> (p4 &&& 31)) => ?_) rfl
  refine z_xP zt275 12 27 [some (.ref 19), some (.int p1), some (.int p2), some (.int p3), some (.int p4), none] [.int 1, .int x19] rfl rfl ?_
  refine z_xI zt275 13 rfl rfl (fun (x21 : Int32) (h22 : x21 = x19 &&& 1 ∧ 0 ≤ x21.toInt ∧ x21.toInt ≤ 1) => ?_) (⟨rfl, z_pAnd rfl (by omega)⟩)
  have hbit : x21.toInt = 1 ↔ yv.toInt.toNat / 2 ^ p4.toInt.toNat % 2 = 1 := z_b01h (z_sbit h19 h22.1 (by omega) ⟨by omega, by omega⟩)
  rw [← hbit] at hyl
  refine z_xP zt275 14 29 [some (.ref 19), some (.int p1), some (.int p2), some (.int p3), some (.int p4), none] [.int 1, .int x21] rfl rfl ?_
  refine z_xJ zt275 15 rfl rfl (fun (h23 : x21.toInt ≠ 1) => ?_) (fun (h23 : x21.toInt = 1) => ?_)
  · skip
    exact z_xrv zt275 28 rfl zzr275 (kk M10 fm ff mm X12 hf44 hf45 hfm (z_trN fun h => h23 (hyl.mp h)) hO)
  refine z_xP zt275 16 34 [some (.ref 19), some (.int p1), some (.int p2), some (.int p3), some (.int p4), none] [.ref 19, .ref 19] rfl rfl ?_
  refine z_xgv zt275 17 rfl zo275 zzf12_371 X12 f19 (by decide) hf44 ?_
  refine z_xZ zt275 18 rfl rfl (fun (h29 : fm.toInt ≠ 0) => ?_) (fun (h29 : fm.toInt = 0) => ?_)
  · skip
    refine z_xP zt275 20 45 [some (.ref 19), some (.int p1), some (.int p2), some (.int p3), some (.int p4), none] [.ref 19, .ref 19] rfl rfl ?_
    refine z_xgv zt275 21 rfl zo275 zzf12_374 X12 f19 (by decide) hf45 ?_
    refine z_xpf zt275 22 rfl zo275 zzf12_374 X12 f19 (by decide) (by decide) ⟨Int32.le_toInt _, Int32.toInt_le _⟩ rfl (by decide) zw12_45 (fun M34 X35 e36 h37 => ?_)
    refine z_xP zt275 23 53 [some (.ref 19), some (.int p1), some (.int p2), some (.int p3), some (.int p4), none] [.ref 19, .ref 19] rfl rfl ?_
    have h38 := (e36.f f19 (by decide) hf44)
    refine z_xgv zt275 24 rfl zo275 zzf12_371 X35 f19 (by decide) h38 ?_
    refine z_xP zt275 25 57 [some (.ref 19), some (.int p1), some (.int p2), some (.int p3), some (.int p4), none] [.int 1, .int fm, .ref 19] rfl rfl ?_
    have h39 := z_b32 fm
    have hlen1 : (z_pm q 0 pre).length = 1 := rfl
    refine z_xI zt275 26 rfl rfl (fun (x40 : Int32) (h40 : x40.toInt = fm.toInt + 1) => ?_) (z_pAdd rfl rfl (by omega) (by omega))
    refine z_xpf zt275 27 rfl zo275 zzf12_371 X35 f19 (by decide) (by decide) ⟨Int32.le_toInt _, Int32.toInt_le _⟩ rfl (by decide) zw12_44 (fun M42 X43 e44 h45 => ?_)
    have hTy : z_tr Y (z_pm q 0 pre) mm ff.toInt (mm + 1) (if mm = 0 then (z_dgt pre : Int) else ff.toInt) := z_trY (hyl.mpr h23)
    rw [if_neg (by omega)] at hTy
    exact z_xrv zt275 28 rfl zzr275 (kk M42 x40 ff (mm + 1) X43 h45 (e44.f f19 (by decide) h37) (by omega) hTy (fun i hi => (congrFun (e44.a f42 (by decide)) i).trans ((congrFun (e36.a f42 (by decide)) i).trans (hO i hi))))
  refine z_xP zt275 19 48 [some (.ref 19), some (.int p1), some (.int p2), some (.int p3), some (.int p4), none] [.int p3, .ref 19] rfl rfl ?_
  refine z_xpf zt275 22 rfl zo275 zzf12_374 X12 f19 (by decide) (by decide) ⟨Int32.le_toInt _, Int32.toInt_le _⟩ rfl (by decide) zw12_45 (fun M47 X48 e49 h50 => ?_)
  refine z_xP zt275 23 53 [some (.ref 19), some (.int p1), some (.int p2), some (.int p3), some (.int p4), none] [.ref 19, .ref 19] rfl rfl ?_
  have h51 := (e49.f f19 (by decide) hf44)
  refine z_xgv zt275 24 rfl zo275 zzf12_371 X48 f19 (by decide) h51 ?_
  refine z_xP zt275 25 57 [some (.ref 19), some (.int p1), some (.int p2), some (.int p3), some (.int p4), none] [.int 1, .int fm, .ref 19] rfl rfl ?_
  have hlen1 : (z_pm q 0 pre).length = 1 := rfl
  refine z_xI zt275 26 rfl rfl (fun (x52 : Int32) (h53 : x52.toInt = fm.toInt + 1) => ?_) (z_pAdd rfl rfl (by omega) (by omega))
  refine z_xpf zt275 27 rfl zo275 zzf12_371 X48 f19 (by decide) (by decide) ⟨Int32.le_toInt _, Int32.toInt_le _⟩ rfl (by decide) zw12_44 (fun M54 X55 e56 h57 => ?_)
  have hTy : z_tr Y (z_pm q 0 pre) mm ff.toInt (mm + 1) (if mm = 0 then (z_dgt pre : Int) else ff.toInt) := z_trY (hyl.mpr h23)
  rw [if_pos (by omega)] at hTy
  exact z_xrv zt275 28 rfl zzr275 (kk M54 x52 p3 (mm + 1) X55 h57 (e56.f f19 (by decide) h50) (by omega) (by rw [hdg]; exact hTy) (fun i hi => (congrFun (e56.a f42 (by decide)) i).trans ((congrFun (e49.a f42 (by decide)) i).trans (hO i hi))))
theorem zR275u {T : List zK} : ∀ N : Nat, zY275 T N := by
  intro N
  induction N with
  | zero => exact (by unfold zY275; intros; exfalso; omega)
  | succ N ih =>
      intro d K p1 p2 p3 p4 M0 a q m pr en n mm B av sv fm ff pre L Y hR q6 hp hn hpn hb hlq ho u4q hdg h44 h45 hfm hfb hL hY u1 u2 u4 hm hd kk
      exact zUC275r hR q6 hp hn hpn hb hlq ho u4q hdg h44 h45 hfm hfb hL hY u1 u2 u4 ih (by omega) hd kk
def y_vQ (M : zH) (p1 : Int32) : Prop := 0 ≤ p1.toInt ∧ p1.toInt < (z_Fv M 19 13).toInt
def y_cR (M0 : zH) (p1 p2 p3 : Int32) (q J : Nat) (B : Nat → Nat) (ww yy nn : Nat → Int32) (x : Int) : Prop := (x = -1 ∧ ¬ y_vQ M0 p1) ∨ (y_vQ M0 p1 ∧ z_aR B q J ww yy nn p2 p3 x)
theorem zUC274 {T : List zK} {d : Nat} {K : Option Value → zH → Prop} {p1 : Int32} {p2 : Int32} {p3 : Int32} {M0 : zH} (hW : z_W M0 T) {q t m pr en J : Nat} {B : Nat → Nat} {ww yy nn : Nat → Int32} (hTB : y_vQ M0 p1 → y_tob M0 p1.toNatClampNeg q t m pr en J B ww yy nn) (kk : ∀ (x : Int32) (M1 : zH), z_X T zw274 M0 M1 → y_cR M0 p1 p2 p3 q J B ww yy nn x.toInt → K (some (.int x)) M1) : z_ev (d + 76) 274 0 [some (.ref 19), some (.int p1), some (.int p2), some (.int p3)] [] M0 K := by
  have X : z_X T zw274 M0 M0 := .refl hW
  refine z_xP zt274 0 2 [some (.ref 19), some (.int p1), some (.int p2), some (.int p3)] [.int p1, .ref 19] rfl rfl ?_
  have f19 : T[19]? = some (.inl (12, 0, 0, 0, 0)) := X.1.k rfl (by decide)
  refine z_xcV (vs := [.ref 19, .int p1]) (r := []) (L2 := [some (.ref 19), some (.int p1)]) zt274 1 rfl zo274 zzcV12_209 (Or.inl rfl) rfl X f19 rfl rfl rfl (Nat.le_of_ble_eq_true rfl) zzm209 (Nat.le_of_ble_eq_true rfl) rfl ?_
  refine z_xP zt209 0 1 [some (.ref 19), some (.int p1)] [.int p1] rfl rfl ?_
  refine z_xZ zt209 1 rfl rfl (fun (h1 : p1.toInt < 0) => ?_) (fun (h1 : 0 ≤ p1.toInt) => ?_)
  · skip
    refine z_xP zt209 6 17 [some (.ref 19), some (.int p1)] [.int 0] rfl rfl ?_
    refine z_xrz zt209 7 rfl zzr209 (by decide) (by decide) ?_
    show z_ev (d + 76) 274 5 [some (.ref 19), some (.int p1), some (.int p2), some (.int p3)] [.int 0] M0 _
    refine z_xZ zt274 2 rfl rfl (fun (h2 : (0 : Int) = 0) => ?_) (fun (h2 : (0 : Int) ≠ 0) => absurd h2 (by omega))
    refine z_xP zt274 16 40 [some (.ref 19), some (.int p1), some (.int p2), some (.int p3)] [.int (-1)] rfl rfl ?_
    have qm1 : (((-1) : Int32)).toInt = (-1) := rfl
    exact z_xri zt274 17 rfl zzr274 (kk (-1) M0 X (Or.inl ⟨rfl, by unfold y_vQ; omega⟩))
  refine z_xP zt209 2 6 [some (.ref 19), some (.int p1)] [.ref 19, .int p1] rfl rfl ?_
  refine z_xgI zt209 3 rfl zo209 zzf12_110 X f19 (by decide) (by decide) rfl (fun (x4 : Int32) h3 (h5 : 0 ≤ x4.toInt) (h6 : x4.toInt ≤ 8) => ?_)
  have ex4 : (z_Fv M0 19 13).toInt = x4.toInt := by rw [z_Fv.of h3]
  have h7 := z_b32 p1
  refine z_xJ zt209 4 rfl rfl (fun (h8 : x4.toInt ≤ p1.toInt) => ?_) (fun (h8 : p1.toInt < x4.toInt) => ?_)
  · skip
    refine z_xP zt209 6 17 [some (.ref 19), some (.int p1)] [.int 0] rfl rfl ?_
    refine z_xrz zt209 7 rfl zzr209 (by decide) (by decide) ?_
    show z_ev (d + 76) 274 5 [some (.ref 19), some (.int p1), some (.int p2), some (.int p3)] [.int 0] M0 _
    refine z_xZ zt274 2 rfl rfl (fun (h9 : (0 : Int) = 0) => ?_) (fun (h9 : (0 : Int) ≠ 0) => absurd h9 (by omega))
    refine z_xP zt274 16 40 [some (.ref 19), some (.int p1), some (.int p2), some (.int p3)] [.int (-1)] rfl rfl ?_
    have qm1 : (((-1) : Int32)).toInt = (-1) := rfl
    exact z_xri zt274 17 rfl zzr274 (kk (-1) M0 X (Or.inl ⟨rfl, by unfold y_vQ; omega⟩))
  refine z_xP zt209 5 17 [some (.ref 19), some (.int p1)] [.int 1] rfl rfl ?_
  refine z_xrz zt209 7 rfl zzr209 (by decide) (by decide) ?_
  show z_ev (d + 76) 274 5 [some (.ref 19), some (.int p1), some (.int p2), some (.int p3)] [.int 1] M0 _
  refine z_xZ zt274 2 rfl rfl (fun (h10 : (1 : Int) = 0) => absurd h10 (by omega)) (fun (h10 : (1 : Int) ≠ 0) => ?_)
  have hvQ : y_vQ M0 p1 := by unfold y_vQ; omega
  have hYt := hTB hvQ
  have hq := hYt.1
  refine z_xP zt274 3 11 [some (.ref 19), some (.int p1), some (.int p2), some (.int p3)] [.int p1, .ref 19, .ref 19] rfl rfl ?_
  refine z_xcV (vs := [.ref 19, .int p1]) (r := [.ref 19]) (L2 := [some (.ref 19), some (.int p1)]) zt274 4 rfl zo274 zzcV12_209 (Or.inl rfl) rfl X f19 rfl rfl rfl (Nat.le_of_ble_eq_true rfl) zzm209 (Nat.le_of_ble_eq_true rfl) rfl ?_
  refine z_xP zt209 0 1 [some (.ref 19), some (.int p1)] [.int p1] rfl rfl ?_
  refine z_xZ zt209 1 rfl rfl (fun (h11 : p1.toInt < 0) => absurd h11 (by omega)) (fun (h11 : 0 ≤ p1.toInt) => ?_)
  refine z_xP zt209 2 6 [some (.ref 19), some (.int p1)] [.ref 19, .int p1] rfl rfl ?_
  refine z_xgv zt209 3 rfl zo209 zzf12_110 X f19 (by decide) h3 ?_
  refine z_xJ zt209 4 rfl rfl (fun (h12 : x4.toInt ≤ p1.toInt) => absurd h12 (by omega)) (fun (h12 : p1.toInt < x4.toInt) => ?_)
  refine z_xP zt209 5 17 [some (.ref 19), some (.int p1)] [.int 1] rfl rfl ?_
  refine z_xrz zt209 7 rfl zzr209 (by decide) (by decide) ?_
  show z_ev (d + 76) 274 14 [some (.ref 19), some (.int p1), some (.int p2), some (.int p3)] [.int 1, .ref 19] M0 _
  refine z_xZ zt274 5 rfl rfl (fun (h91 : (1 : Int) = 0) => absurd h91 (by omega)) (fun (h91 : (1 : Int) ≠ 0) => ?_)
  refine z_xP zt274 6 22 [some (.ref 19), some (.int p1), some (.int p2), some (.int p3)] [.int p1, .ref 19] rfl rfl ?_
  refine z_xP zt274 8 23 [some (.ref 19), some (.int p1), some (.int p2), some (.int p3)] [.int p2, .int p1, .ref 19] rfl rfl ?_
  refine z_xcV (vs := [.ref 19, .int p1, .int p2]) (r := []) (L2 := [some (.ref 19), some (.int p1), some (.int p2)]) zt274 9 rfl zo274 zzcV12_225 (Or.inl rfl) rfl X f19 rfl rfl rfl (Nat.le_of_ble_eq_true rfl) zzm218 (Nat.le_of_ble_eq_true rfl) rfl ?_
  refine z_xP zt218 0 1 [some (.ref 19), some (.int p1), some (.int p2)] [.int p2] rfl rfl ?_
  refine z_xZ zt218 1 rfl rfl (fun (h92 : p2.toInt < 0) => ?_) (fun (h92 : 0 ≤ p2.toInt) => ?_)
  · skip
    refine z_xP zt218 8 19 [some (.ref 19), some (.int p1), some (.int p2)] [.int 0] rfl rfl ?_
    refine z_xrz zt218 9 rfl zzr218 (by decide) (by decide) ?_
    show z_ev (d + 76) 274 26 [some (.ref 19), some (.int p1), some (.int p2), some (.int p3)] [.int 0] M0 _
    refine z_xZ zt274 10 rfl rfl (fun (h93 : (0 : Int) = 0) => ?_) (fun (h93 : (0 : Int) ≠ 0) => absurd h93 (by omega))
    refine z_xP zt274 16 40 [some (.ref 19), some (.int p1), some (.int p2), some (.int p3)] [.int (-1)] rfl rfl ?_
    have qm1 : (((-1) : Int32)).toInt = (-1) := rfl
    exact z_xri zt274 17 rfl zzr274 (kk (-1) M0 X (Or.inr ⟨hvQ, Or.inl ⟨rfl, by unfold z_wR; omega⟩⟩))
  refine z_xP zt218 2 6 [some (.ref 19), some (.int p1), some (.int p2)] [.ref 19, .int p2] rfl rfl ?_
  refine z_xgX (b := 24) zt218 3 rfl zo218 zzf12_22 X f19 (by decide) (by decide) rfl ?_
  refine z_xP zt218 4 10 [some (.ref 19), some (.int p1), some (.int p2)] [.int p1, .ref 24, .int p2] rfl rfl ?_
  have f24 : T[24]? = some (.inr (24, 0, 8, 0, 10)) := X.1.k rfl (by decide)
  refine z_xil zt218 5 rfl X f24 (by decide) (by omega) (by omega) (fun (x94 : Int32) h95 (h96 : 0 ≤ x94.toInt) (h97 : x94.toInt ≤ 10) => ?_)
  have ex94 : x94.toInt = (q : Int) := by rw [← h95]; exact hYt.2.1.1
  have h98 := z_b32 p2
  refine z_xJ zt218 6 rfl rfl (fun (h99 : x94.toInt ≤ p2.toInt) => ?_) (fun (h99 : p2.toInt < x94.toInt) => ?_)
  · skip
    refine z_xP zt218 8 19 [some (.ref 19), some (.int p1), some (.int p2)] [.int 0] rfl rfl ?_
    refine z_xrz zt218 9 rfl zzr218 (by decide) (by decide) ?_
    show z_ev (d + 76) 274 26 [some (.ref 19), some (.int p1), some (.int p2), some (.int p3)] [.int 0] M0 _
    refine z_xZ zt274 10 rfl rfl (fun (h100 : (0 : Int) = 0) => ?_) (fun (h100 : (0 : Int) ≠ 0) => absurd h100 (by omega))
    refine z_xP zt274 16 40 [some (.ref 19), some (.int p1), some (.int p2), some (.int p3)] [.int (-1)] rfl rfl ?_
    have qm1 : (((-1) : Int32)).toInt = (-1) := rfl
    exact z_xri zt274 17 rfl zzr274 (kk (-1) M0 X (Or.inr ⟨hvQ, Or.inl ⟨rfl, by unfold z_wR; omega⟩⟩))
  refine z_xP zt218 7 19 [some (.ref 19), some (.int p1), some (.int p2)] [.int 1] rfl rfl ?_
  refine z_xrz zt218 9 rfl zzr218 (by decide) (by decide) ?_
  show z_ev (d + 76) 274 26 [some (.ref 19), some (.int p1), some (.int p2), some (.int p3)] [.int 1] M0 _
  refine z_xZ zt274 10 rfl rfl (fun (h101 : (1 : Int) = 0) => absurd h101 (by omega)) (fun (h101 : (1 : Int) ≠ 0) => ?_)
  refine z_xP zt274 11 30 [some (.ref 19), some (.int p1), some (.int p2), some (.int p3)] [.int p3] rfl rfl ?_
  have h102 := z_b32 p3
  refine z_xL zt274 12 rfl rfl (fun (y103 : Int64) (h104 : y103.toInt = p3.toInt) => ?_) (z_qI2L rfl)
  refine z_xP zt274 13 33 [some (.ref 19), some (.int p1), some (.int p2), some (.int p3)] [.long 1, .long 0, .long y103] rfl rfl ?_
  refine z_xcS (vs := [.long y103, .long 0, .long 1]) (r := []) (L2 := [some (.long y103), none, some (.long 0), none, some (.long 1), none]) zt274 14 rfl zo274 zzcS12_116 (Or.inl rfl) (Nat.le_of_ble_eq_true rfl) rfl rfl (Nat.le_of_ble_eq_true rfl) zzm189 (Nat.le_of_ble_eq_true rfl) rfl ?_
  refine z_xP zt189 0 2 [some (.long y103), none, some (.long 0), none, some (.long 1), none] [.long 0, .long y103] rfl rfl ?_
  refine z_xI zt189 1 rfl rfl (fun (x105 : Int32) (h106 : (x105.toInt < 0 ∧ y103.toInt < 0) ∨ (x105.toInt = 0 ∧ y103.toInt = 0) ∨ (0 < x105.toInt ∧ 0 < y103.toInt)) => ?_) (z_qCmp rfl rfl)
  refine z_xZ zt189 2 rfl rfl (fun (h107 : x105.toInt < 0) => ?_) (fun (h107 : 0 ≤ x105.toInt) => ?_)
  · skip
    refine z_xP zt189 7 18 [some (.long y103), none, some (.long 0), none, some (.long 1), none] [.int 0] rfl rfl ?_
    refine z_xrz zt189 8 rfl zzr189 (by decide) (by decide) ?_
    show z_ev (d + 76) 274 36 [some (.ref 19), some (.int p1), some (.int p2), some (.int p3)] [.int 0] M0 _
    refine z_xZ zt274 15 rfl rfl (fun (h108 : (0 : Int) ≠ 0) => absurd h108 (by omega)) (fun (h108 : (0 : Int) = 0) => ?_)
    refine z_xP zt274 16 40 [some (.ref 19), some (.int p1), some (.int p2), some (.int p3)] [.int (-1)] rfl rfl ?_
    have qm1 : (((-1) : Int32)).toInt = (-1) := rfl
    exact z_xri zt274 17 rfl zzr274 (kk (-1) M0 X (Or.inr ⟨hvQ, Or.inl ⟨rfl, by unfold z_wR; omega⟩⟩))
  refine z_xP zt189 3 9 [some (.long y103), none, some (.long 0), none, some (.long 1), none] [.long 1, .long y103] rfl rfl ?_
  refine z_xI zt189 4 rfl rfl (fun (x109 : Int32) (h110 : (x109.toInt < 0 ∧ y103.toInt < 1) ∨ (x109.toInt = 0 ∧ y103.toInt = 1) ∨ (0 < x109.toInt ∧ 1 < y103.toInt)) => ?_) (z_qCmp rfl rfl)
  refine z_xZ zt189 5 rfl rfl (fun (h111 : 0 < x109.toInt) => ?_) (fun (h111 : x109.toInt ≤ 0) => ?_)
  · skip
    refine z_xP zt189 7 18 [some (.long y103), none, some (.long 0), none, some (.long 1), none] [.int 0] rfl rfl ?_
    refine z_xrz zt189 8 rfl zzr189 (by decide) (by decide) ?_
    show z_ev (d + 76) 274 36 [some (.ref 19), some (.int p1), some (.int p2), some (.int p3)] [.int 0] M0 _
    refine z_xZ zt274 15 rfl rfl (fun (h112 : (0 : Int) ≠ 0) => absurd h112 (by omega)) (fun (h112 : (0 : Int) = 0) => ?_)
    refine z_xP zt274 16 40 [some (.ref 19), some (.int p1), some (.int p2), some (.int p3)] [.int (-1)] rfl rfl ?_
    have qm1 : (((-1) : Int32)).toInt = (-1) := rfl
    exact z_xri zt274 17 rfl zzr274 (kk (-1) M0 X (Or.inr ⟨hvQ, Or.inl ⟨rfl, by unfold z_wR; omega⟩⟩))
  refine z_xP zt189 6 18 [some (.long y103), none, some (.long 0), none, some (.long 1), none] [.int 1] rfl rfl ?_
  refine z_xrz zt189 8 rfl zzr189 (by decide) (by decide) ?_
  show z_ev (d + 76) 274 36 [some (.ref 19), some (.int p1), some (.int p2), some (.int p3)] [.int 1] M0 _
  refine z_xZ zt274 15 rfl rfl (fun (h113 : (1 : Int) ≠ 0) => ?_) (fun (h113 : (1 : Int) = 0) => absurd h113 (by omega))
  refine z_xP zt274 18 42 [some (.ref 19), some (.int p1), some (.int p2), some (.int p3)] [.ref 19] rfl rfl ?_
  refine z_xgX (b := 24) zt274 19 rfl zo274 zzf12_22 X f19 (by decide) (by decide) rfl ?_
  refine z_xP zt274 20 46 [some (.ref 19), some (.int p1), some (.int p2), some (.int p3)] [.int p1, .ref 24] rfl rfl ?_
  refine z_xil zt274 21 rfl X f24 (by decide) (by omega) (by omega) (fun (x114 : Int32) h115 (h116 : 0 ≤ x114.toInt) (h117 : x114.toInt ≤ 10) => ?_)
  have ex114 : x114.toInt = (q : Int) := by rw [← h115]; exact hYt.2.1.1
  have h118 := congrArg Int32.toInt (h115.symm.trans h95)
  refine z_xP zt274 22 49 [some (.ref 19), some (.int p1), some (.int p2), some (.int p3)] [.int 6, .int x114] rfl rfl ?_
  refine z_xJ zt274 23 rfl rfl (fun (h119 : x114.toInt ≤ 6) => ?_) (fun (h119 : 6 < x114.toInt) => ?_)
  · skip
    refine z_xP zt274 26 57 [some (.ref 19), some (.int p1), some (.int p2), some (.int p3)] [.int p1, .ref 19] rfl rfl ?_
    refine z_xcV (vs := [.ref 19, .int p1]) (r := []) (L2 := [some (.ref 19), some (.int p1), none]) zt274 27 rfl zo274 zzcV12_255 (Or.inl rfl) rfl X f19 rfl rfl rfl (Nat.le_of_ble_eq_true rfl) zzm229 (Nat.le_of_ble_eq_true rfl) rfl ?_
    obtain ⟨x120, h121, h122, h123⟩ := z_W.fi X.1 f19 (k := 29) (lo := 0) (hi := 7) (by decide) rfl
    refine zUC229 X.1 (by omega) h121 ⟨by omega, by omega⟩ (fun M124 X125 hsit z126 h127 h128 h129 => ?_)
    have X130 := X.go X125 (z_sb (by decide))
    show z_ev (d + 76) 274 60 [some (.ref 19), some (.int p1), some (.int p2), some (.int p3)] [] M124 _
    have h132 : z126 = p1 := z_sub (c := p1.toInt) (by omega) rfl
    have h133 := h127
    rw [h132] at h133
    obtain ⟨hRP, eJ, eqs⟩ := z_RPof hYt hW X125 (by decide) (show p1.toNatClampNeg < 8 by show p1.toInt.toNat < 8; omega) h133 (show p1.toInt = ((p1.toNatClampNeg : Nat) : Int) by show p1.toInt = ((p1.toInt.toNat : Nat) : Int); omega) hsit
    refine z_xP zt274 28 62 [some (.ref 19), some (.int p1), some (.int p2), some (.int p3)] [.int 0, .ref 19] rfl rfl ?_
    have q0 : ((0 : Int32)).toInt = 0 := rfl
    refine z_xpf zt274 29 rfl zo274 zzf12_371 X130 f19 (by decide) (by decide) ⟨by omega, by omega⟩ rfl (by decide) zw12_44 (fun M134 X135 e136 h137 => ?_)
    refine z_xP zt274 30 68 [some (.ref 19), some (.int p1), some (.int p2), some (.int p3)] [.int (-2), .ref 19] rfl rfl ?_
    have qm2 : (((-2) : Int32)).toInt = (-2) := rfl
    refine z_xpf zt274 31 rfl zo274 zzf12_374 X135 f19 (by decide) (by decide) ⟨by omega, by omega⟩ rfl (by decide) zw12_45 (fun M138 X139 e140 h141 => ?_)
    refine z_xP zt274 32 74 [some (.ref 19), some (.int p1), some (.int p2), some (.int p3)] [.ref 19, .int 0, .ref 19] rfl rfl ?_
    refine z_xcV (vs := [.ref 19]) (r := [.int 0, .ref 19]) (L2 := [some (.ref 19)]) zt274 33 rfl zo274 zzcV12_248 (Or.inl rfl) rfl X139 f19 rfl rfl rfl (Nat.le_of_ble_eq_true rfl) zzm240 (Nat.le_of_ble_eq_true rfl) rfl ?_
    refine z_xP zt240 0 2 [some (.ref 19)] [.ref 19, .int 1] rfl rfl ?_
    refine z_xgX (b := 24) zt240 1 rfl zo240 zzf12_22 X139 f19 (by decide) (by decide) rfl ?_
    refine z_xP zt240 2 6 [some (.ref 19)] [.ref 19, .ref 24, .int 1] rfl rfl ?_
    have h142 := (e140.f f19 (by decide) (e136.f f19 (by decide) h133))
    refine z_xgv zt240 3 rfl zo240 zzf12_242 X139 f19 (by decide) h142 ?_
    refine z_xil zt240 4 rfl X139 f24 (by decide) (by omega) (by omega) (fun (x143 : Int32) h144 (h145 : 0 ≤ x143.toInt) (h146 : x143.toInt ≤ 10) => ?_)
    have h147 := congrArg Int32.toInt (h144.symm.trans ((congrFun (e140.a f24 (by decide)) _).trans ((congrFun (e136.a f24 (by decide)) _).trans ((congrFun (X125.2.a f24 (by decide)) _).trans h95))))
    refine z_xI zt240 5 rfl rfl (fun (x148 : Int32) (h149 : x148 = (1 : Int32) <<< (x143 &&& 31) ∧ 1 ≤ x148.toInt ∧ x148.toInt ≤ 64) => ?_) (⟨rfl, z_pShlB (a := 1) (b := 6) (c := 64) (r := 64) rfl rfl (by omega) (by omega) (by omega) (by omega) (by decide) (by decide) (by decide) (by decide)⟩)
    refine z_xP zt240 6 12 [some (.ref 19)] [.int 1, .int x148] rfl rfl ?_
    refine z_xI zt240 7 rfl rfl (fun (x150 : Int32) (h151 : x150.toInt = x148.toInt - 1) => ?_) (z_pSub rfl rfl (by omega) (by omega))
    have e64 : x143.toInt = (q : Int) := by omega
    have hA := z_all2 e64 hq.2 h149.1 h151
    refine z_xri zt240 8 rfl zzr240 ?_
    show z_ev (d + 76) 274 77 [some (.ref 19), some (.int p1), some (.int p2), some (.int p3)] [.int x150, .int 0, .ref 19] M138 _
    refine z_xP zt274 34 79 [some (.ref 19), some (.int p1), some (.int p2), some (.int p3)] [.int p2, .int 0, .int x150, .int 0, .ref 19] rfl rfl ?_
    refine z_xcV (vs := [.ref 19, .int 0, .int x150, .int 0, .int p2]) (r := []) (L2 := [some (.ref 19), some (.int 0), some (.int x150), some (.int 0), some (.int p2), none]) zt274 35 rfl zo274 zzcV12_377 (Or.inl rfl) rfl X139 f19 rfl rfl rfl (Nat.le_of_ble_eq_true rfl) zzm275 (Nat.le_of_ble_eq_true rfl) rfl ?_
    have q0 : ((0 : Int32)).toInt = 0 := rfl
    have h152 := ((congrFun (e140.a f24 (by decide)) _).trans ((congrFun (e136.a f24 (by decide)) _).trans ((congrFun (X125.2.a f24 (by decide)) _).trans h95)))
    have q0 : ((0 : Int32)).toInt = 0 := rfl
    have hxA : x150.toInt.toNat = 2 ^ q - 1 := by have := Nat.two_pow_pos q; omega
    have hP6 : 2 ^ q ≤ 64 := Nat.pow_le_pow_right (n := 2) (i := q) (j := 6) (by decide) (by omega)
    have hfc := z_fcL (q := q) (by omega)
    have hplen := z_pmsN (q := q) (by omega)
    have hRP2 := (hRP.ke ⟨X135.1, e136⟩ (by decide)).ke ⟨X139.1, e140⟩ (by decide)
    have h : zY275 T 64 := zR275u 64
    unfold zY275 at h
    refine h (d := d + 63) (n := q) (mm := 0) (pre := []) (fm := 0) (ff := -2) (L := z_LV M138 (z_Ar M0 35 p1.toNatClampNeg)) (Y := z_oY B q ww yy nn J p2.toInt.toNat) hRP2 (by omega) rfl (by rw [show x150.toInt = ((2 ^ q : Nat) : Int) - 1 from hA]; exact z_pcq (by omega)) (by rw [List.length_nil]; omega) (fun v hv => ?_) (fun v hv => absurd hv List.not_mem_nil) (fun i hi => absurd hi (Nat.not_lt_zero i)) (by omega) rfl (e140.f f19 (by decide) h137) h141 rfl (by omega) rfl ?_ (by decide) (by omega) (by omega) (by omega) (by omega) (fun M153 fm1 ff1 m1 X154 hf1 hf2 hm1 hT1 _ => ?_)
    · rw [hxA, z_allb2 (by omega) (by omega)]
      exact ⟨fun _ => List.not_mem_nil, fun _ => hv⟩
    · refine z_oYis fun k hk => ?_
      rw [show z_LV M138 (z_Ar M0 35 p1.toNatClampNeg) = z_LV M124 (z_Ar M0 35 p1.toNatClampNeg) from (z_LV.ke X135.1 ⟨X139.1, e140⟩ (by decide)).trans (z_LV.ke hRP.1 ⟨X135.1, e136⟩ (by decide))]
      exact z_LVof eJ eqs k
    have X159 := X139.go X154 (z_sb (by decide))
    show z_ev (d + 76) 274 82 [some (.ref 19), some (.int p1), some (.int p2), some (.int p3)] [] M153 _
    refine z_xP zt274 36 83 [some (.ref 19), some (.int p1), some (.int p2), some (.int p3)] [.int p3] rfl rfl ?_
    refine z_xZ zt274 37 rfl rfl (fun (h161 : p3.toInt ≠ 0) => ?_) (fun (h161 : p3.toInt = 0) => ?_)
    · skip
      refine z_xP zt274 41 94 [some (.ref 19), some (.int p1), some (.int p2), some (.int p3)] [.ref 19] rfl rfl ?_
      refine z_xgv zt274 42 rfl zo274 zzf12_374 X159 f19 (by decide) hf2 ?_
      exact z_xri zt274 43 rfl zzr274 (kk ff1 M153 X159 (Or.inr ⟨hvQ, Or.inr ⟨by unfold z_wR; omega, Or.inr ⟨by omega, m1, _, hT1, Or.inr ⟨h161, rfl⟩⟩⟩⟩))
    refine z_xP zt274 38 87 [some (.ref 19), some (.int p1), some (.int p2), some (.int p3)] [.ref 19] rfl rfl ?_
    refine z_xgv zt274 39 rfl zo274 zzf12_371 X159 f19 (by decide) hf1 ?_
    refine z_xP zt274 40 97 [some (.ref 19), some (.int p1), some (.int p2), some (.int p3)] [.int fm1] rfl rfl ?_
    exact z_xri zt274 43 rfl zzr274 (kk fm1 M153 X159 (Or.inr ⟨hvQ, Or.inr ⟨by unfold z_wR; omega, Or.inr ⟨by omega, m1, _, hT1, Or.inl ⟨h161, hm1⟩⟩⟩⟩))
  refine z_xP zt274 24 54 [some (.ref 19), some (.int p1), some (.int p2), some (.int p3)] [.int (-4)] rfl rfl ?_
  have qm4 : (((-4) : Int32)).toInt = (-4) := rfl
  exact z_xri zt274 25 rfl zzr274 (kk (-4) M0 X (Or.inr ⟨hvQ, Or.inr ⟨by unfold z_wR; omega, Or.inl ⟨rfl, by omega⟩⟩⟩))
theorem zT28 {x1 x2 x3 : Int32} {M : zH} (hJA : z_JA M) (hJ : z_J M) : z_ev 2046 154 0 (z_ent [.ref 4, .int x1, .int x2, .int x3] (z_ml 154)) [] M fun v M1 => (∃ y, v = some (.int y)) ∧ z_ev 2046 274 0 (z_ent [.ref 19, .int x1, .int x2, .int x3] (z_ml 274)) [] M1 fun v2 M2 => (∃ y, v2 = some (.int y)) ∧ v = v2 ∧ z_J M2 ∧ M2.length ≤ M.length + 1171 ∧ z_szr M2 ≤ z_szr M + 14000 := by
  obtain ⟨T, hA, hR, h9⟩ := hJ
  have hW := hA.1.1
  have hbk := hR.2.2.1
  obtain ⟨v1, v2, v3, v4⟩ := z_R5.v hR.1
  have k4 : T[4]? = some (.inl (0, 0, 0, 0, 0)) := hW.k rfl (by decide)
  have k19 : T[19]? = some (.inl (12, 0, 0, 0, 0)) := hW.k rfl (by decide)
  obtain ⟨V, hV, _, _⟩ := hW.fi k4 (k := 5) (lo := 0) (hi := 20) (by decide) rfl
  obtain ⟨A, hAe, _, A8⟩ := hW.fi k4 (k := 3) (lo := 0) (hi := 8) (by decide) rfl
  refine z_twoG (C := fun v v2 => v = v2) ?_
  rw [zzm154]
  show z_ev 2046 154 0 [some (.ref 4), some (.int x1), some (.int x2), some (.int x3), none] [] M _
  refine zUC154 (d := 2042) hW hR h9 hA.1 fun y M1 X1 h1 => ?_
  have hB := z_kee hA X1 (by decide)
  refine ⟨⟨y, rfl⟩, Or.inl ⟨X1.1.1.trans hW.1.symm, z_kep X1 (by decide)⟩, ?_⟩
  have hN : (z_Fv M1 19 13).toInt = (z_Fv M 4 3).toInt := (congrArg Int32.toInt (z_FvK (X1.2.1 19 12 0 0 0 0 13 k19 (by decide)))).trans v2
  have ev : y_vQ M1 x1 ↔ z_vQ M x1 := by
    unfold y_vQ z_vQ
    rw [hN]
  have h71 : z_R7 T M1 := hR.2.2.ke hW (fun _ _ h => h) (hbk.ke X1.2 rfl) X1.2 rfl
  have h91 : z_R89 T M1 := h9.ke hbk hW (fun _ _ _ _ _ h => h) X1.2 rfl
  obtain ⟨q, t, m, pr, en, J, B, ww, yy, nn, hTB, hcmp⟩ : ∃ (q t m pr en J : Nat) (B : Nat → Nat) (ww yy nn : Nat → Int32), (y_vQ M1 x1 → y_tob M1 x1.toNatClampNeg q t m pr en J B ww yy nn) ∧ (∀ z : Int32, y_cR M1 x1 x2 x3 q J B ww yy nn z.toInt → y = z) := by
    rcases h1 with ⟨e1, n1⟩ | ⟨w1, b, N, q, t, m, pr, en, J, B, jv, ww, yy, nn, hTB, ha⟩
    · refine ⟨0, 0, 0, 0, 0, 0, fun _ => 0, fun _ => 0, fun _ => 0, fun _ => 0, fun h => absurd (ev.mp h) n1, fun z h2 => ?_⟩
      rcases h2 with ⟨e2, _⟩ | ⟨w2, _⟩
      · exact Int32.toInt_inj.mp (e1.trans e2.symm)
      · exact absurd (ev.mp w2) n1
    · refine ⟨q, t, m, pr, en, J, B, ww, yy, nn, fun _ => hTB.y hW X1.2 rfl rfl, fun z h2 => ?_⟩
      rcases h2 with ⟨_, n2⟩ | ⟨_, ha2⟩
      · exact absurd (ev.mpr w1) n2
      · exact Int32.toInt_inj.mp (z_aRU ha ha2)
  rw [zzm274]
  show z_ev 2046 274 0 [some (.ref 19), some (.int x1), some (.int x2), some (.int x3)] [] M1 _
  refine zUC274 (d := 1970) hB.1.1 hTB fun z M2 X2 h2 => ?_
  exact ⟨⟨z, rfl⟩, by rw [hcmp z h2], ⟨T, z_kee hB X2 (by decide), hR.two7 hW X1 X2 rfl rfl (h71.ke X1.1 (fun _ _ h => h) ((hbk.ke X1.2 rfl).ke X2.2 rfl) X2.2 rfl), h91.go (hbk.ke X1.2 rfl) X1.1 X2 rfl⟩, X2.1.1.trans X1.1.1.symm, z_kep X2 (by decide)⟩
