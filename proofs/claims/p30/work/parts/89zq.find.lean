/-! what the reference decides -/
def z_LV (M : zH) (sv : Int32) (k : Nat) : Int := (z_vs (z_Ar M 40) (z_Ar M 39) (Int32.ofNat k) sv.toInt.toNat).toInt - (z_vs (z_Ar M 41) (z_Ar M 39) (Int32.ofNat k) sv.toInt.toNat).toInt
/-- an agenda and the seats -/
def z_RP (T : List zK) (M : zH) (a q m pr en : Nat) (B : Nat → Nat) (av sv : Int32) : Prop := z_W M T ∧ (z_F M 19 29 = some (.int av) ∧ av.toInt = (a : Int) ∧ a < 8) ∧ (z_F M 19 30 = some (.int sv) ∧ 0 ≤ sv.toInt ∧ sv.toInt ≤ 9) ∧ (1 ≤ q ∧ q ≤ 10) ∧ (∃ t, y_AGO M a q t m pr en B) ∧ (m = z_lc B (2 ^ q) ∧ 1 ≤ m) ∧ (∀ j, j < sv.toInt.toNat → z_ans q (z_Ar M 40 j) (z_Ar M 41 j)) ∧ z_okJ (z_Ar M 39) (z_Ar M 40) (z_Ar M 41) sv.toInt.toNat
theorem z_RP.ke {T : List zK} {M M1 : zH} {a q m pr en : Nat} {B : Nat → Nat} {av sv : Int32} {rs : List Nat} (h : z_RP T M a q m pr en B av sv) (X : z_X T rs M M1) (hr : ((z_agr ++ [2229, 2230, 39, 40, 41]).all fun x => !rs.elem x) = true) : z_RP T M1 a q m pr en B av sv := by
  obtain ⟨hW, ⟨h1, h2, h3⟩, ⟨h4, h5⟩, h6, ⟨t, h7⟩, h8, h9, h10⟩ := h
  have nn := z_nin hr
  have k19 : T[19]? = some (.inl (12, 0, 0, 0, 0)) := hW.k rfl (by decide)
  refine ⟨X.1, ⟨X.2.f k19 (nn _ rfl) h1, h2, h3⟩, ⟨X.2.f k19 (nn _ rfl) h4, h5⟩, h6, ⟨t, h7.ke hW X.2 (List.all_eq_true.mpr fun x hx => List.all_eq_true.mp hr x (List.mem_append_left _ hx))⟩, h8, ?_⟩
  rw [X.2.a (hW.k (k := 39) (κ := z_af 39 9) rfl (by decide)) (nn _ rfl), X.2.a (hW.k (k := 40) (κ := z_af 40 9) rfl (by decide)) (nn _ rfl), X.2.a (hW.k (k := 41) (κ := z_af 41 9) rfl (by decide)) (nn _ rfl)]
  exact ⟨h9, h10⟩
theorem z_LV.ke {T : List zK} {M M1 : zH} {sv : Int32} {rs : List Nat} (hW : z_W M T) (X : z_X T rs M M1) (hr : (([39, 40, 41] : List Nat).all fun x => !rs.elem x) = true) : z_LV M1 sv = z_LV M sv := by
  have nn := z_nin hr
  unfold z_LV
  rw [X.2.a (hW.k (k := 39) (κ := z_af 39 9) rfl (by decide)) (nn _ rfl), X.2.a (hW.k (k := 40) (κ := z_af 40 9) rfl (by decide)) (nn _ rfl), X.2.a (hW.k (k := 41) (κ := z_af 41 9) rfl (by decide)) (nn _ rfl)]
section ZWYU
variable {P P2 Q : Nat → Prop} {q k0 : Nat} {v e x6 : Int32} {w : Int}
theorem z_wyU (h : z_wy P q v.toInt) (hk : k0 < q) (q10 : q ≤ 10) (h6 : x6.toInt = (k0 : Int)) (he : e = v ||| ((1 : Int32) <<< (x6 &&& 31))) : z_wy (fun k => P k ∨ k = k0) q e.toInt := by
  have h5 := z_orw h.1 h6 (by omega) rfl he
  refine ⟨h5.1, fun k hk2 => ?_⟩
  rw [h5.2 k hk2, h.2 k hk2]
  exact ⟨fun a => a.elim (fun ⟨b1, b2⟩ => ⟨b1, Or.inl b2⟩) fun b => ⟨by omega, Or.inr b⟩, fun ⟨a1, a2⟩ => a2.elim (fun b => Or.inl ⟨a1, b⟩) Or.inr⟩
theorem z_wyC (h : z_wy P q w) (e : ∀ k, k < q → (P k ↔ P2 k)) : z_wy P2 q w := ⟨h.1, fun k hk => by
  rw [h.2 k hk]
  exact ⟨fun ⟨a1, a2⟩ => ⟨a1, (e k a1).mp a2⟩, fun ⟨a1, a2⟩ => ⟨a1, (e k a1).mpr a2⟩⟩⟩
theorem z_wyB {w2 : Int} (h : z_wy P q w) (h2 : z_wy Q q w2) : z_wbo q P Q w.toNat w2.toNat := ⟨⟨by have := h.1; omega, by have := h2.1; omega⟩, fun k hk => ⟨h.2 k hk, h2.2 k hk⟩⟩
theorem z_orN (hv : 0 ≤ v.toInt ∧ v.toInt < 1024) (hk : k0 < 10) (h6 : x6.toInt = (k0 : Int)) (he : e = v ||| ((1 : Int32) <<< (x6 &&& 31))) : (0 ≤ e.toInt ∧ e.toInt < 1024) ∧ e.toInt.toNat = v.toInt.toNat ||| 2 ^ k0 := by
  have h5 := z_orw hv h6 hk rfl he
  have p : 2 ^ k0 < 2 ^ 10 := Nat.pow_lt_pow_right (by decide) hk
  refine ⟨h5.1, z_beq (t := 10) (by have := h5.1; omega) (Nat.or_lt_two_pow (by omega) p) fun i hi => ?_⟩
  rw [h5.2 i hi, z_lor_bit, z_p2bit]
  exact ⟨fun a => a.imp id fun b => b.symm, fun a => a.imp id fun b => b.symm⟩
end ZWYU
/-- what the reference finds forced -/
theorem z_foF {B : Nat → Nat} {q m k : Nat} {S : Nat → Int32} {y n : Int32} {x : Int} (hS : z_LS B (2 ^ q) S) (hm : m = z_lc B (2 ^ q)) (q10 : q ≤ 10) (hy : 0 ≤ y.toInt ∧ y.toInt < 1024) (hn : 0 ≤ n.toInt ∧ n.toInt < 1024) (h : y_fo S y n k m x) : (x = 1 ∧ z_F1 B q y.toInt.toNat n.toInt.toNat k) ∨ (x = 0 ∧ z_F0 B q y.toInt.toNat n.toInt.toNat k) ∨ (x < 0 ∧ (z_ef B q y.toInt.toNat n.toInt.toNat k 1 ↔ z_ef B q y.toInt.toNat n.toInt.toNat k 0)) := by
  have e1 := y_fsE (k := k) (c := 1) hS hm q10 hy hn
  have e0 := y_fsE (k := k) (c := 0) hS hm q10 hy hn
  unfold y_fo at h
  rw [e1, e0] at h
  rcases h with ⟨h1, h2, h3⟩ | ⟨h1, h2, h3⟩ | ⟨h1, h2, h3⟩ | ⟨h1, h2, h3⟩
  · exact Or.inr (Or.inr ⟨by omega, ⟨fun a => absurd a h2, fun a => absurd a h3⟩⟩)
  · exact Or.inl ⟨h1, h2, h3⟩
  · exact Or.inr (Or.inl ⟨h1, h3, h2⟩)
  · exact Or.inr (Or.inr ⟨by omega, ⟨fun _ => h3, fun _ => h2⟩⟩)
def zw243 : List Nat := [2234, 2235]
/-- a question is answered -/
def z_anw (k v y0 n0 y n : Int32) : Prop := (v.toInt = 1 ∧ y = y0 ||| ((1 : Int32) <<< (k &&& 31)) ∧ n = n0) ∨ (v.toInt = 0 ∧ y = y0 ∧ n = n0 ||| ((1 : Int32) <<< (k &&& 31))) ∨ (v.toInt ≠ 1 ∧ v.toInt ≠ 0 ∧ y = y0 ∧ n = n0)
theorem zUC243 {T : List zK} {d : Nat} {K : Option Value → zH → Prop} {p1 p2 y0 n0 : Int32} {M0 : zH} (hW : z_W M0 T) (hy : z_F M0 19 34 = some (.int y0)) (hn : z_F M0 19 35 = some (.int n0)) (kk : ∀ (M1 : zH) (y n : Int32), z_X T zw243 M0 M1 → z_F M1 19 34 = some (.int y) → z_F M1 19 35 = some (.int n) → z_anw p1 p2 y0 n0 y n → K none M1) : z_ev d 243 0 [some (.ref 19), some (.int p1), some (.int p2)] [] M0 K := by
  have X : z_X T zw243 M0 M0 := .refl hW
  refine z_xP zt243 0 2 [some (.ref 19), some (.int p1), some (.int p2)] [.ref 19, .ref 19] rfl rfl ?_
  have f19 : T[19]? = some (.inl (12, 0, 0, 0, 0)) := X.1.k rfl (by decide)
  refine z_xgv zt243 1 rfl zo243 zzf12_275 X f19 (by decide) hy ?_
  refine z_xP zt243 2 7 [some (.ref 19), some (.int p1), some (.int p2)] [.int 1, .int p2, .int y0, .ref 19] rfl rfl ?_
  refine z_xJ zt243 3 rfl rfl (fun (h5 : p2.toInt ≠ 1) => ?_) (fun (h5 : p2.toInt = 1) => ?_)
  · skip
    refine z_xP zt243 7 17 [some (.ref 19), some (.int p1), some (.int p2)] [.int 0, .int y0, .ref 19] rfl rfl ?_
    refine z_xI zt243 8 rfl rfl (fun (x6 : Int32) (h6 : x6 = y0 ||| (0 : Int32)) => ?_) rfl
    refine z_xpf zt243 9 rfl zo243 zzf12_275 X f19 (by decide) (by decide) ⟨Int32.le_toInt _, Int32.toInt_le _⟩ rfl (by decide) zw12_34 (fun M8 X9 e10 h11 => ?_)
    rw [h6, Int32.or_zero] at h11
    refine z_xP zt243 10 23 [some (.ref 19), some (.int p1), some (.int p2)] [.ref 19, .ref 19] rfl rfl ?_
    have hn8 := e10.f f19 (by decide) hn
    refine z_xgv zt243 11 rfl zo243 zzf12_278 X9 f19 (by decide) hn8 ?_
    refine z_xP zt243 12 27 [some (.ref 19), some (.int p1), some (.int p2)] [.int p2, .int n0, .ref 19] rfl rfl ?_
    refine z_xZ zt243 13 rfl rfl (fun (h16 : p2.toInt ≠ 0) => ?_) (fun (h16 : p2.toInt = 0) => ?_)
    · skip
      refine z_xP zt243 17 37 [some (.ref 19), some (.int p1), some (.int p2)] [.int 0, .int n0, .ref 19] rfl rfl ?_
      refine z_xI zt243 18 rfl rfl (fun (x17 : Int32) (h17 : x17 = n0 ||| (0 : Int32)) => ?_) rfl
      refine z_xpf zt243 19 rfl zo243 zzf12_278 X9 f19 (by decide) (by decide) ⟨Int32.le_toInt _, Int32.toInt_le _⟩ rfl (by decide) zw12_35 (fun M19 X20 e21 h22 => ?_)
      rw [h17, Int32.or_zero] at h22
      exact z_xrv zt243 20 rfl zzr243 (kk M19 y0 n0 X20 (e21.f f19 (by decide) h11) h22 (Or.inr (Or.inr ⟨h5, h16, rfl, rfl⟩)))
    refine z_xP zt243 14 32 [some (.ref 19), some (.int p1), some (.int p2)] [.int p1, .int 1, .int n0, .ref 19] rfl rfl ?_
    refine z_xI zt243 15 rfl rfl (fun (x23 : Int32) (h23 : x23 = (1 : Int32) <<< (p1 &&& 31)) => ?_) rfl
    refine z_xP zt243 16 37 [some (.ref 19), some (.int p1), some (.int p2)] [.int x23, .int n0, .ref 19] rfl rfl ?_
    refine z_xI zt243 18 rfl rfl (fun (x25 : Int32) (h25 : x25 = n0 ||| x23) => ?_) rfl
    refine z_xpf zt243 19 rfl zo243 zzf12_278 X9 f19 (by decide) (by decide) ⟨Int32.le_toInt _, Int32.toInt_le _⟩ rfl (by decide) zw12_35 (fun M27 X28 e29 h30 => ?_)
    exact z_xrv zt243 20 rfl zzr243 (kk M27 y0 x25 X28 (e29.f f19 (by decide) h11) h30 (Or.inr (Or.inl ⟨h16, rfl, by rw [h25, h23]⟩)))
  refine z_xP zt243 4 12 [some (.ref 19), some (.int p1), some (.int p2)] [.int p1, .int 1, .int y0, .ref 19] rfl rfl ?_
  refine z_xI zt243 5 rfl rfl (fun (x31 : Int32) (h31 : x31 = (1 : Int32) <<< (p1 &&& 31)) => ?_) rfl
  refine z_xP zt243 6 17 [some (.ref 19), some (.int p1), some (.int p2)] [.int x31, .int y0, .ref 19] rfl rfl ?_
  refine z_xI zt243 8 rfl rfl (fun (x33 : Int32) (h33 : x33 = y0 ||| x31) => ?_) rfl
  refine z_xpf zt243 9 rfl zo243 zzf12_275 X f19 (by decide) (by decide) ⟨Int32.le_toInt _, Int32.toInt_le _⟩ rfl (by decide) zw12_34 (fun M35 X36 e37 h38 => ?_)
  refine z_xP zt243 10 23 [some (.ref 19), some (.int p1), some (.int p2)] [.ref 19, .ref 19] rfl rfl ?_
  have hn8 := e37.f f19 (by decide) hn
  refine z_xgv zt243 11 rfl zo243 zzf12_278 X36 f19 (by decide) hn8 ?_
  refine z_xP zt243 12 27 [some (.ref 19), some (.int p1), some (.int p2)] [.int p2, .int n0, .ref 19] rfl rfl ?_
  refine z_xZ zt243 13 rfl rfl (fun (h43 : p2.toInt ≠ 0) => ?_) (fun (h43 : p2.toInt = 0) => absurd h43 (by omega))
  refine z_xP zt243 17 37 [some (.ref 19), some (.int p1), some (.int p2)] [.int 0, .int n0, .ref 19] rfl rfl ?_
  refine z_xI zt243 18 rfl rfl (fun (x44 : Int32) (h44 : x44 = n0 ||| (0 : Int32)) => ?_) rfl
  refine z_xpf zt243 19 rfl zo243 zzf12_278 X36 f19 (by decide) (by decide) ⟨Int32.le_toInt _, Int32.toInt_le _⟩ rfl (by decide) zw12_35 (fun M46 X47 e48 h49 => ?_)
  rw [h44, Int32.or_zero] at h49
  exact z_xrv zt243 20 rfl zzr243 (kk M46 x33 n0 X47 (e48.f f19 (by decide) h38) h49 (Or.inl ⟨h5, by rw [h33, h31], rfl⟩))
/-- the loop of premises: what is told so far -/
def z_pmY (B : Nat → Nat) (q pr : Nat) (L : Nat → Int) (y1 n1 i : Nat) (k : Nat) : Prop := (pr / 2 ^ k % 2 = 1 ∧ 0 < L k) ∨ (k < i ∧ ¬ pr / 2 ^ k % 2 = 1 ∧ z_F1 B q y1 n1 k)
def z_pmN (B : Nat → Nat) (q pr : Nat) (L : Nat → Int) (y1 n1 i : Nat) (k : Nat) : Prop := (pr / 2 ^ k % 2 = 1 ∧ L k < 0) ∨ (k < i ∧ ¬ pr / 2 ^ k % 2 = 1 ∧ z_F0 B q y1 n1 k)
section ZPM
variable {B : Nat → Nat} {q pr y1 n1 i : Nat} {L : Nat → Int} {k v y0 n0 y n : Int32} {x : Int}
/-- a premise is passed over -/
theorem z_pmS (hY : z_wy (z_pmY B q pr L y1 n1 i) q y0.toInt) (hN : z_wy (z_pmN B q pr L y1 n1 i) q n0.toInt) (hp : pr / 2 ^ i % 2 = 1) : z_wy (z_pmY B q pr L y1 n1 (i + 1)) q y0.toInt ∧ z_wy (z_pmN B q pr L y1 n1 (i + 1)) q n0.toInt := by
  refine ⟨z_wyC hY fun k _ => ?_, z_wyC hN fun k _ => ?_⟩
  · refine ⟨fun a => a.imp id fun ⟨b1, b2⟩ => ⟨by omega, b2⟩, fun a => a.imp id fun ⟨b1, b2, b3⟩ => ⟨?_, b2, b3⟩⟩
    by_cases c : k = i
    · rw [c] at b2
      exact absurd hp b2
    · omega
  · refine ⟨fun a => a.imp id fun ⟨b1, b2⟩ => ⟨by omega, b2⟩, fun a => a.imp id fun ⟨b1, b2, b3⟩ => ⟨?_, b2, b3⟩⟩
    by_cases c : k = i
    · rw [c] at b2
      exact absurd hp b2
    · omega
/-- another question is answered as it is forced -/
theorem z_pmA (hY : z_wy (z_pmY B q pr L y1 n1 i) q y0.toInt) (hN : z_wy (z_pmN B q pr L y1 n1 i) q n0.toInt) (hp : ¬ pr / 2 ^ i % 2 = 1) (hi : i < q) (q10 : q ≤ 10) (hk : k.toInt = (i : Int)) (hf : (v.toInt = 1 ∧ z_F1 B q y1 n1 i) ∨ (v.toInt = 0 ∧ z_F0 B q y1 n1 i) ∨ (v.toInt < 0 ∧ (z_ef B q y1 n1 i 1 ↔ z_ef B q y1 n1 i 0))) (ha : z_anw k v y0 n0 y n) : z_wy (z_pmY B q pr L y1 n1 (i + 1)) q y.toInt ∧ z_wy (z_pmN B q pr L y1 n1 (i + 1)) q n.toInt := by
  have stay : ∀ {P P2 : Nat → Prop} {F : Nat → Prop} {w : Int}, z_wy P q w → (∀ k, P k ↔ P2 k ∨ (k < i ∧ ¬ pr / 2 ^ k % 2 = 1 ∧ F k)) → ¬ F i → z_wy (fun k => P2 k ∨ (k < i + 1 ∧ ¬ pr / 2 ^ k % 2 = 1 ∧ F k)) q w := fun h e hn => z_wyC h fun k _ => by
    rw [e k]
    refine ⟨fun a => a.imp id fun ⟨b1, b2⟩ => ⟨by omega, b2⟩, fun a => a.imp id fun ⟨b1, b2, b3⟩ => ⟨?_, b2, b3⟩⟩
    by_cases c : k = i
    · rw [c] at b3
      exact absurd b3 hn
    · omega
  have put : ∀ {P P2 : Nat → Prop} {F : Nat → Prop} {w e : Int32}, z_wy P q w.toInt → (∀ k, P k ↔ P2 k ∨ (k < i ∧ ¬ pr / 2 ^ k % 2 = 1 ∧ F k)) → F i → e = w ||| ((1 : Int32) <<< (k &&& 31)) → z_wy (fun k => P2 k ∨ (k < i + 1 ∧ ¬ pr / 2 ^ k % 2 = 1 ∧ F k)) q e.toInt := fun h e hF he => z_wyC (z_wyU h hi q10 hk he) fun j _ => by
    rw [e j]
    refine ⟨fun a => ?_, fun a => ?_⟩
    · rcases a with (a | ⟨a1, a2⟩) | a
      · exact Or.inl a
      · exact Or.inr ⟨by omega, a2⟩
      · rw [a]
        exact Or.inr ⟨by omega, hp, hF⟩
    · rcases a with a | ⟨a1, a2⟩
      · exact Or.inl (Or.inl a)
      · by_cases c : j = i
        · exact Or.inr c
        · exact Or.inl (Or.inr ⟨by omega, a2⟩)
  have iY : ∀ k, z_pmY B q pr L y1 n1 i k ↔ (pr / 2 ^ k % 2 = 1 ∧ 0 < L k) ∨ (k < i ∧ ¬ pr / 2 ^ k % 2 = 1 ∧ z_F1 B q y1 n1 k) := fun _ => Iff.rfl
  have iN : ∀ k, z_pmN B q pr L y1 n1 i k ↔ (pr / 2 ^ k % 2 = 1 ∧ L k < 0) ∨ (k < i ∧ ¬ pr / 2 ^ k % 2 = 1 ∧ z_F0 B q y1 n1 k) := fun _ => Iff.rfl
  rcases hf with ⟨f1, f2⟩ | ⟨f1, f2⟩ | ⟨f1, f2⟩
  · rcases ha with ⟨a1, a2, a3⟩ | ⟨a1, _⟩ | ⟨a1, _⟩
    · rw [a3]
      exact ⟨put hY iY f2 a2, stay hN iN fun c => f2.2 c.1⟩
    · omega
    · exact absurd f1 a1
  · rcases ha with ⟨a1, _⟩ | ⟨a1, a2, a3⟩ | ⟨_, a1, _⟩
    · omega
    · rw [a2]
      exact ⟨stay hY iY fun c => f2.2 c.1, put hN iN f2 a3⟩
    · exact absurd f1 a1
  · rcases ha with ⟨a1, _⟩ | ⟨a1, _⟩ | ⟨_, _, a2, a3⟩
    · omega
    · omega
    · rw [a2, a3]
      exact ⟨stay hY iY fun c => c.2 (f2.mp c.1), stay hN iN fun c => c.2 (f2.mpr c.1)⟩
end ZPM
