/-! laws, the reference -/
theorem y_Tz.cs {T : List zK} {M : zH} {a q t m pr en : Nat} {B : Nat → Nat} {S : Nat → Int32} {A : Int32} (hT : y_Tz T M a q t m pr en B S A) (hm : m = z_lc B (2 ^ q) ∧ 1 ≤ m) {av yv nv : Int32} {x : Int} (hav : z_F M 19 29 = some (.int av)) (hy : 0 ≤ yv.toInt ∧ yv.toInt < 1024) (hn : 0 ≤ nv.toInt ∧ nv.toInt < 1024) (h : y_cb (fun j => z_Ar M 30 (1024 * av.toNatClampNeg + j)) yv nv (z_Ar M 31 av.toNatClampNeg).toInt.toNat x) : (x = 1 ∧ z_cs B q yv.toInt.toNat nv.toInt.toNat) ∨ (x = 0 ∧ ¬ z_cs B q yv.toInt.toNat nv.toInt.toNat) := by
  obtain ⟨hW, ⟨av2, h1, ea, a8⟩, hG, hSS, hA, q10⟩ := id hT
  have eav := z_ive hav h1
  rw [← eav] at ea
  rw [z_tnA ea] at h
  have e31 := hG.2.2.2.2.1
  have e := y_csE (y := yv) (n := nv) hG.2.2.2.2.2.2 hm.1 q10.2 hy hn
  rw [← e, show m = (z_Ar M 31 a).toInt.toNat by omega]
  exact h
/-- an outcome written down -/
def y_q1 (M : zH) (c : Nat) (B : Nat → Nat) (q pr en sh ch m n : Nat) (S : Nat → Int32) (A : Int32) (r : Nat) : Prop := 0 ≤ (z_Ar M 44 r).toInt ∧ 0 ≤ (z_Ar M 45 r).toInt ∧ z_oJ c B q pr en sh n ch z_w1 (z_yS S (z_rw m n r)) (z_nS S A (z_rw m n r)) (z_Ar M 44 r).toInt.toNat (z_Ar M 45 r).toInt.toNat
def y_rq (M : zH) (c : Nat) (B : Nat → Nat) (q pr en sh ch m n : Nat) (S : Nat → Int32) (A : Int32) (k : Nat) : Prop := ∀ r, r < k → y_q1 M c B q pr en sh ch m n S A r ∧ ∀ j, j < n → (z_Ar M 46 (3 * r + j)).toInt = ((z_rw m n r j : Nat) : Int)
theorem y_q1.eq {M M1 : zH} {c q pr en sh ch m n : Nat} {B : Nat → Nat} {S : Nat → Int32} {A : Int32} {r : Nat} (h : y_q1 M c B q pr en sh ch m n S A r) (e4 : z_Ar M1 44 r = z_Ar M 44 r) (e5 : z_Ar M1 45 r = z_Ar M 45 r) : y_q1 M1 c B q pr en sh ch m n S A r := by
  unfold y_q1
  rw [e4, e5]
  exact h
theorem y_rq.eq {M M1 : zH} {c q pr en sh ch m n : Nat} {B : Nat → Nat} {S : Nat → Int32} {A : Int32} {k : Nat} (h : y_rq M c B q pr en sh ch m n S A k) (e4 : ∀ r, r < k → z_Ar M1 44 r = z_Ar M 44 r) (e5 : ∀ r, r < k → z_Ar M1 45 r = z_Ar M 45 r) (e6 : ∀ i, i < 3 * k → z_Ar M1 46 i = z_Ar M 46 i) (n3 : n ≤ 3) : y_rq M1 c B q pr en sh ch m n S A k := fun r hr => ⟨(h r hr).1.eq (e4 r hr) (e5 r hr), fun j hj => by
  rw [e6 _ (by omega)]
  exact (h r hr).2 j hj⟩
theorem zYB266 {T : List zK} {d : Nat} {K : Option Value → zH → Prop} {p1 p2 p3 : Int32} {M0 : zH} {a q t m pr en kd sh ch : Nat} {B : Nat → Nat} {S : Nat → Int32} {A : Int32} (hW0 : z_W M0 T) (hwp1 : y_wy M0 p1 kd sh ch) (hm : m = z_lc B (2 ^ q) ∧ 1 ≤ m) (m6 : m ≤ 6) (up1 : 0 ≤ p1.toInt ∧ p1.toInt ≤ 19) (un : 1 ≤ p3.toInt ∧ p3.toInt ≤ 3) (kk : ∀ M1 : zH, z_X T zw266 M0 M1 → y_RW T M1 a q t m pr en p3.toInt.toNat B S A (fun r => (z_Ar M1 44 r).toInt.toNat) (fun r => (z_Ar M1 45 r).toInt.toNat) → z_ros (kd + 4) B q pr en sh ch m p3.toInt.toNat S A (fun r => (z_Ar M1 44 r).toInt.toNat) (fun r => (z_Ar M1 45 r).toInt.toNat) → K none M1) : ∀ nn : Nat, (∀ (M : zH) (b4 : Int32) (o5 : Option Value) (k : Nat), z_X T zw266 M0 M → (0 ≤ b4.toInt ∧ b4.toInt ≤ 1) → y_Tz T M a q t m pr en B S A → (∃ kv : Int32, z_F M 19 41 = some (.int kv) ∧ kv.toInt = (k : Int)) → y_rq M (kd + 4) B q pr en sh ch m p3.toInt.toNat S A k → ((b4.toInt = 0 ∧ k = m ^ p3.toInt.toNat) ∨ (b4.toInt = 1 ∧ k < m ^ p3.toInt.toNat ∧ y_TN T M a q t m pr en p3.toInt.toNat B (z_rw m p3.toInt.toNat k) S A ∧ y_ST M p3.toInt.toNat (z_rw m p3.toInt.toNat k) S A)) → 20 * ((m ^ p3.toInt.toNat : Nat) - (k : Int)) + 10 * b4.toInt + 9 < (nn : Int) → z_ev (d + 5) 266 14 [some (.ref 19), some (.int p1), some (.int p2), some (.int p3), some (.int b4), o5] [] M K) ∧ (∀ (M : zH) (b4 b5 : Int32) (k : Nat), z_X T zw266 M0 M → y_TN T M a q t m pr en p3.toInt.toNat B (z_rw m p3.toInt.toNat k) S A → (∃ kv : Int32, z_F M 19 41 = some (.int kv) ∧ kv.toInt = (k : Int)) → y_rq M (kd + 4) B q pr en sh ch m p3.toInt.toNat S A k → k < m ^ p3.toInt.toNat → y_q1 M (kd + 4) B q pr en sh ch m p3.toInt.toNat S A k → (∀ j, j < b5.toInt.toNat → (z_Ar M 46 (3 * k + j)).toInt = ((z_rw m p3.toInt.toNat k j : Nat) : Int)) → (0 ≤ b5.toInt ∧ b5.toInt ≤ p3.toInt) → 20 * ((m ^ p3.toInt.toNat : Nat) - (k : Int)) + 10 + (5 - b5.toInt) < (nn : Int) → z_ev (d + 5) 266 53 [some (.ref 19), some (.int p1), some (.int p2), some (.int p3), some (.int b4), some (.int b5)] [] M K) := by
  intro nn
  induction nn with
  | zero => exact ⟨(by intro M b4 o5 k X hb4 hT hC hQ hst hE; rcases hst with ⟨g1, g2⟩ | ⟨g1, g2, _⟩ <;> (exfalso; omega)), (by intros; exfalso; omega)⟩
  | succ nn ih =>
    have hmk := z_mk (m := m) (k := p3.toInt.toNat) m6 (by omega)
    have q0 : ((0 : Int32)).toInt = 0 := rfl
    refine ⟨?_, ?_⟩
    · skip
      intro M b4 o5 k X hb4 hT0 hC hQ hst hE
      have f19 : T[19]? = some (.inl (12, 0, 0, 0, 0)) := X.1.k rfl (by decide)
      refine z_xP zt266 5 16 [some (.ref 19), some (.int p1), some (.int p2), some (.int p3), some (.int b4), o5] [.int b4] rfl rfl ?_
      refine z_xZ zt266 6 rfl rfl (fun (h1 : b4.toInt = 0) => ?_) (fun (h1 : b4.toInt ≠ 0) => ?_)
      · skip
        have hkT : k = m ^ p3.toInt.toNat := by
          rcases hst with ⟨_, g⟩ | ⟨g, _⟩
          · exact g
          · omega
        rw [hkT] at hQ hC
        exact z_xrv zt266 48 rfl zzr266 (kk M X ⟨hT0, hC, fun r hr => ⟨by have := (hQ r hr).1.1; show (z_Ar M 44 r).toInt = (((z_Ar M 44 r).toInt.toNat : Nat) : Int); omega, by have := (hQ r hr).1.2.1; show (z_Ar M 45 r).toInt = (((z_Ar M 45 r).toInt.toNat : Nat) : Int); omega, (hQ r hr).2⟩⟩ (fun r hr => (hQ r hr).1.2.2))
      obtain ⟨hkL, hTM, hSM⟩ : k < m ^ p3.toInt.toNat ∧ y_TN T M a q t m pr en p3.toInt.toNat B (z_rw m p3.toInt.toNat k) S A ∧ y_ST M p3.toInt.toNat (z_rw m p3.toInt.toNat k) S A := by
        rcases hst with ⟨g, _⟩ | ⟨_, g⟩
        · exact absurd g h1
        · exact g
      obtain ⟨kv, hkv, ekv⟩ := hC
      obtain ⟨_, ⟨z0, hp0, ea, a8⟩, ⟨z1, hp1, esv, n5⟩, hG, hSS, hA, q10, hnu⟩ := id hTM
      obtain ⟨sv, hRP, eJ⟩ := hTM.rp hSM hm hp0
      obtain ⟨gkd, gsh, gch⟩ := hwp1.ke hW0 X.2 (by decide)
      refine z_xP zt266 7 21 [some (.ref 19), some (.int p1), some (.int p2), some (.int p3), some (.int b4), o5] [.int p1, .ref 19] rfl rfl ?_
      refine z_xcV (vs := [.ref 19, .int p1]) (r := []) (L2 := [some (.ref 19), some (.int p1), none]) zt266 8 rfl zo266 zzcV12_303 (Or.inl rfl) rfl X f19 rfl rfl rfl (Nat.le_of_ble_eq_true rfl) zzm239 (Nat.le_of_ble_eq_true rfl) rfl ?_
      refine zUC239 hRP (by omega) gkd gsh gch (fun M2 yv nv X3 hyv hnv hyn hout => ?_)
      rw [eJ] at hout
      have hoJ : z_oJ (kd + 4) B q pr en sh p3.toInt.toNat ch z_w1 (z_yS S (z_rw m p3.toInt.toNat k)) (z_nS S A (z_rw m p3.toInt.toNat k)) yv.toInt.toNat nv.toInt.toNat := ⟨_, _, _, fun k2 _ => z_LVof eJ hSM k2, fun j hj => ⟨by rw [(hSM j hj).2.1], by rw [(hSM j hj).2.2]⟩, hout⟩
      have hT2 := hTM.ke X3 (by decide)
      have X4 := X.go X3 (z_sb (by decide))
      show z_ev (d + 5) 266 24 [some (.ref 19), some (.int p1), some (.int p2), some (.int p3), some (.int b4), o5] [] M2 _
      refine z_xP zt266 9 25 [some (.ref 19), some (.int p1), some (.int p2), some (.int p3), some (.int b4), o5] [.ref 19] rfl rfl ?_
      refine z_xgX (b := 44) zt266 10 rfl zo266 zzf12_82 X4 f19 (by decide) (by decide) rfl ?_
      refine z_xP zt266 11 29 [some (.ref 19), some (.int p1), some (.int p2), some (.int p3), some (.int b4), o5] [.ref 19, .ref 44] rfl rfl ?_
      have h6 := (X3.2.f f19 (by decide) hkv)
      refine z_xgv zt266 12 rfl zo266 zzf12_339 X4 f19 (by decide) h6 ?_
      refine z_xP zt266 13 33 [some (.ref 19), some (.int p1), some (.int p2), some (.int p3), some (.int b4), o5] [.ref 19, .int kv, .ref 44] rfl rfl ?_
      refine z_xgv zt266 14 rfl zo266 zzf12_275 X4 f19 (by decide) hyv ?_
      have f44 : T[44]? = some (.inr (44, 0, 216, (-2147483648), 2147483647)) := X4.1.k rfl (by decide)
      refine z_xis zt266 15 rfl X4 f44 (by decide) (by decide) (by omega) (by omega) (Int32.le_toInt _) (Int32.toInt_le _) (by decide) (fun M11 X12 e13 h14 => ?_)
      refine z_xP zt266 16 38 [some (.ref 19), some (.int p1), some (.int p2), some (.int p3), some (.int b4), o5] [.ref 19] rfl rfl ?_
      refine z_xgX (b := 45) zt266 17 rfl zo266 zzf12_85 X12 f19 (by decide) (by decide) rfl ?_
      refine z_xP zt266 18 42 [some (.ref 19), some (.int p1), some (.int p2), some (.int p3), some (.int b4), o5] [.ref 19, .ref 45] rfl rfl ?_
      have h15 := (e13.f f19 (by decide) h6)
      refine z_xgv zt266 19 rfl zo266 zzf12_339 X12 f19 (by decide) h15 ?_
      refine z_xP zt266 20 46 [some (.ref 19), some (.int p1), some (.int p2), some (.int p3), some (.int b4), o5] [.ref 19, .int kv, .ref 45] rfl rfl ?_
      refine z_xgv zt266 21 rfl zo266 zzf12_278 X12 f19 (by decide) (e13.f f19 (by decide) hnv) ?_
      have f45 : T[45]? = some (.inr (45, 0, 216, (-2147483648), 2147483647)) := X12.1.k rfl (by decide)
      have f46 : T[46]? = some (.inr (46, 0, 648, 0, 1023)) := X12.1.k rfl (by decide)
      refine z_xis zt266 22 rfl X12 f45 (by decide) (by decide) (by omega) (by omega) (Int32.le_toInt _) (Int32.toInt_le _) (by decide) (fun M20 X21 e22 h23 => ?_)
      refine z_xP zt266 23 53 [some (.ref 19), some (.int p1), some (.int p2), some (.int p3), some (.int b4), some (.int 0)] [] rfl rfl ?_
      have hT20 := (hT2.ke ⟨X12.1, e13⟩ (by decide)).ke ⟨X21.1, e22⟩ (by decide)
      have a44 : ∀ i, z_Ar M20 44 i = if i = k then yv else z_Ar M 44 i := fun i => by
        rw [e22.a f44 (by decide), h14, X3.2.a f44 (by decide)]
        show (if i = kv.toInt.toNat then yv else z_Ar M 44 i) = _
        rw [show kv.toInt.toNat = k by omega]
      have a45 : ∀ i, z_Ar M20 45 i = if i = k then nv else z_Ar M 45 i := fun i => by
        rw [h23, e13.a f45 (by decide), X3.2.a f45 (by decide)]
        show (if i = kv.toInt.toNat then nv else z_Ar M 45 i) = _
        rw [show kv.toInt.toNat = k by omega]
      have a46 : z_Ar M20 46 = z_Ar M 46 := (e22.a f46 (by decide)).trans ((e13.a f46 (by decide)).trans (X3.2.a f46 (by decide)))
      refine ih.2 M20 b4 (0) k X21 hT20 ⟨kv, e22.f f19 (by decide) h15, ekv⟩ (hQ.eq (fun r hr => by rw [a44, if_neg (by omega)]) (fun r hr => by rw [a45, if_neg (by omega)]) (fun i _ => by rw [a46]) (by omega)) hkL ?_ (fun j hj => absurd hj (Nat.not_lt_zero j)) ⟨by omega, by omega⟩ (by omega)
      unfold y_q1
      rw [a44, a45, if_pos rfl, if_pos rfl]
      exact ⟨hyn.1.1, hyn.2.1, hoJ⟩
    · skip
      intro M b4 b5 k X hTM hC hQ hkL hq1 h46 hb5 hE
      obtain ⟨kv, hkv, ekv⟩ := hC
      obtain ⟨_, ⟨z0, hp0, ea, a8⟩, ⟨z1, hp1, esv, n5⟩, hG, hSS, hA, q10, hnu⟩ := id hTM
      have f19 : T[19]? = some (.inl (12, 0, 0, 0, 0)) := X.1.k rfl (by decide)
      have f44 : T[44]? = some (.inr (44, 0, 216, (-2147483648), 2147483647)) := X.1.k rfl (by decide)
      have f45 : T[45]? = some (.inr (45, 0, 216, (-2147483648), 2147483647)) := X.1.k rfl (by decide)
      have f46 : T[46]? = some (.inr (46, 0, 648, 0, 1023)) := X.1.k rfl (by decide)
      have f43 : T[43]? = some (.inr (43, 0, 9, 0, 1023)) := X.1.k rfl (by decide)
      refine z_xP zt266 24 56 [some (.ref 19), some (.int p1), some (.int p2), some (.int p3), some (.int b4), some (.int b5)] [.int p3, .int b5] rfl rfl ?_
      refine z_xJ zt266 25 rfl rfl (fun (h1 : p3.toInt ≤ b5.toInt) => ?_) (fun (h1 : b5.toInt < p3.toInt) => ?_)
      · skip
        refine z_xP zt266 40 88 [some (.ref 19), some (.int p1), some (.int p2), some (.int p3), some (.int b4), some (.int b5)] [.ref 19, .ref 19] rfl rfl ?_
        refine z_xgv zt266 41 rfl zo266 zzf12_339 X f19 (by decide) hkv ?_
        refine z_xP zt266 42 92 [some (.ref 19), some (.int p1), some (.int p2), some (.int p3), some (.int b4), some (.int b5)] [.int 1, .int kv, .ref 19] rfl rfl ?_
        refine z_xI zt266 43 rfl rfl (fun (x2 : Int32) (h3 : x2.toInt = kv.toInt + 1) => ?_) (z_pAdd rfl rfl (by omega) (by omega))
        refine z_xpf zt266 44 rfl zo266 zzf12_339 X f19 (by decide) (by decide) ⟨by omega, by omega⟩ rfl (by decide) zw12_41 (fun M4 X5 e6 h7 => ?_)
        refine z_xP zt266 45 98 [some (.ref 19), some (.int p1), some (.int p2), some (.int p3), some (.int b4), some (.int b5)] [.int 1, .ref 19] rfl rfl ?_
        refine z_xcV (vs := [.ref 19, .int 1]) (r := []) (L2 := [some (.ref 19), some (.int 1), none, none, none]) zt266 46 rfl zo266 zzcV12_326 (Or.inl rfl) rfl X5 f19 rfl rfl rfl (Nat.le_of_ble_eq_true rfl) zzm255 (Nat.le_of_ble_eq_true rfl) rfl ?_
        have q1 : ((1 : Int32)).toInt = 1 := rfl
        have hN := z_rwN m (by omega) p3.toInt.toNat (by omega) k (by omega) hm.2 hkL
        refine zYC255 ⟨by omega, by omega⟩ (hTM.ke ⟨X5.1, e6⟩ (by decide)) (by omega) (fun x27 M14 X15 hgo => ?_)
        have X30 := X5.go X15 (z_sb (by decide))
        show z_ev (d + 5) 266 101 [some (.ref 19), some (.int p1), some (.int p2), some (.int p3), some (.int b4), some (.int b5)] [.int x27] M14 _
        refine z_xP zt266 47 14 [some (.ref 19), some (.int p1), some (.int p2), some (.int p3), some (.int x27), some (.int b5)] [] rfl rfl ?_
        have e44 : z_Ar M14 44 = z_Ar M 44 := (X15.2.a f44 (by decide)).trans (e6.a f44 (by decide))
        have e45 : z_Ar M14 45 = z_Ar M 45 := (X15.2.a f45 (by decide)).trans (e6.a f45 (by decide))
        have e46 : z_Ar M14 46 = z_Ar M 46 := (X15.2.a f46 (by decide)).trans (e6.a f46 (by decide))
        refine ih.1 M14 x27 (some (.int b5)) (k + 1) X30 (by rcases hgo with ⟨g, _⟩ | ⟨g, _⟩ <;> omega) ((hTM.t0.ke ⟨X5.1, e6⟩ (by decide)).ke X15 (by decide)) ⟨x2, X15.2.f f19 (by decide) h7, by omega⟩ (fun r hr => ?_) ?_ (by rcases hgo with ⟨g, g2⟩ | ⟨g, g2, _⟩ <;> omega)
        · by_cases c : r = k
          · rw [c]
            refine ⟨hq1.eq (by rw [e44]) (by rw [e45]), fun j hj => ?_⟩
            rw [e46]
            exact h46 j (by omega)
          · have h := hQ r (by omega)
            refine ⟨h.1.eq (by rw [e44]) (by rw [e45]), fun j hj => ?_⟩
            rw [e46]
            exact h.2 j hj
        · rcases hgo with ⟨g1, g2⟩ | ⟨g1, g2, g3, g4⟩
          · exact Or.inl ⟨g1, hN.1.mp g2⟩
          · have hk1 : k + 1 ≠ m ^ p3.toInt.toNat := fun g => g2 (hN.1.mpr g)
            exact Or.inr ⟨g1, by omega, g3.C (fun j hj => hN.2 g2 j hj), g4.C (fun j hj => hN.2 g2 j hj)⟩
      refine z_xP zt266 26 60 [some (.ref 19), some (.int p1), some (.int p2), some (.int p3), some (.int b4), some (.int b5)] [.ref 19] rfl rfl ?_
      refine z_xgX (b := 46) zt266 27 rfl zo266 zzf12_88 X f19 (by decide) (by decide) rfl ?_
      refine z_xP zt266 28 65 [some (.ref 19), some (.int p1), some (.int p2), some (.int p3), some (.int b4), some (.int b5)] [.ref 19, .int 3, .ref 46] rfl rfl ?_
      refine z_xgv zt266 29 rfl zo266 zzf12_339 X f19 (by decide) hkv ?_
      refine z_xI zt266 30 rfl rfl (fun (x37 : Int32) (h38 : x37.toInt = 3 * kv.toInt) => ?_) (z_pMul rfl rfl (by omega) (by omega))
      refine z_xP zt266 31 71 [some (.ref 19), some (.int p1), some (.int p2), some (.int p3), some (.int b4), some (.int b5)] [.int b5, .int x37, .ref 46] rfl rfl ?_
      refine z_xI zt266 32 rfl rfl (fun (x39 : Int32) (h40 : x39.toInt = x37.toInt + b5.toInt) => ?_) (z_pAdd rfl rfl (by omega) (by omega))
      refine z_xP zt266 33 73 [some (.ref 19), some (.int p1), some (.int p2), some (.int p3), some (.int b4), some (.int b5)] [.ref 19, .int x39, .ref 46] rfl rfl ?_
      refine z_xgX (b := 43) zt266 34 rfl zo266 zzf12_79 X f19 (by decide) (by decide) rfl ?_
      refine z_xP zt266 35 78 [some (.ref 19), some (.int p1), some (.int p2), some (.int p3), some (.int b4), some (.int b5)] [.int b5, .ref 43, .int x39, .ref 46] rfl rfl ?_
      refine z_xil zt266 36 rfl X f43 (by decide) (by omega) (by omega) (fun (x41 : Int32) h42 (h43 : 0 ≤ x41.toInt) (h44 : x41.toInt ≤ 1023) => ?_)
      have e41 : x41.toInt = ((z_rw m p3.toInt.toNat k b5.toInt.toNat : Nat) : Int) := (congrArg Int32.toInt h42).symm.trans (hnu b5.toInt.toNat (by omega)).1
      refine z_xis zt266 37 rfl X f46 (by decide) (by decide) (by omega) (by omega) (by omega) (by omega) (by decide) (fun M45 X46 e47 h48 => ?_)
      refine z_xN zt266 38 rfl rfl (fun (x49 : Int32) (h50 : x49.toInt = b5.toInt + 1) => ?_) (z_pAdd rfl rfl (by omega) (by omega))
      show z_ev (d + 5) 266 83 [some (.ref 19), some (.int p1), some (.int p2), some (.int p3), some (.int b4), some (.int x49)] [] M45 _
      refine z_xP zt266 39 53 [some (.ref 19), some (.int p1), some (.int p2), some (.int p3), some (.int b4), some (.int x49)] [] rfl rfl ?_
      have a46 : ∀ i, z_Ar M45 46 i = if i = 3 * k + b5.toInt.toNat then x41 else z_Ar M 46 i := fun i => by
        rw [h48]
        show (if i = x39.toInt.toNat then x41 else z_Ar M 46 i) = _
        rw [show x39.toInt.toNat = 3 * k + b5.toInt.toNat by omega]
      refine ih.2 M45 b4 x49 k X46 (hTM.ke ⟨X46.1, e47⟩ (by decide)) ⟨kv, e47.f f19 (by decide) hkv, ekv⟩ (hQ.eq (fun r _ => by rw [e47.a f44 (by decide)]) (fun r _ => by rw [e47.a f45 (by decide)]) (fun i hi => by rw [a46, if_neg (by omega)]) (by omega)) hkL (hq1.eq (by rw [e47.a f44 (by decide)]) (by rw [e47.a f45 (by decide)])) (fun j hj => ?_) ⟨by omega, by omega⟩ (by omega)
      rw [a46]
      by_cases c : j = b5.toInt.toNat
      · rw [c, if_pos rfl]
        exact e41
      · rw [if_neg (by omega)]
        exact h46 j (by omega)
theorem zYC266 {T : List zK} {d : Nat} {K : Option Value → zH → Prop} {p1 p2 p3 : Int32} {M0 : zH} {q t m pr en kd sh ch : Nat} {B : Nat → Nat} {S : Nat → Int32} {A : Int32} (hW0 : z_W M0 T) (hwp1 : y_wy M0 p1 kd sh ch) (hY : y_tnb M0 p2.toNatClampNeg q t m pr en B S A) (m6 : m ≤ 6) (up1 : 0 ≤ p1.toInt ∧ p1.toInt ≤ 19) (up2 : 0 ≤ p2.toInt ∧ p2.toInt ≤ 7) (un : 1 ≤ p3.toInt ∧ p3.toInt ≤ 3) (kk : ∀ M1 : zH, z_X T zw266 M0 M1 → y_RW T M1 p2.toNatClampNeg q t m pr en p3.toInt.toNat B S A (fun r => (z_Ar M1 44 r).toInt.toNat) (fun r => (z_Ar M1 45 r).toInt.toNat) → z_ros (kd + 4) B q pr en sh ch m p3.toInt.toNat S A (fun r => (z_Ar M1 44 r).toInt.toNat) (fun r => (z_Ar M1 45 r).toInt.toNat) → K none M1) : z_ev (d + 5) 266 0 [some (.ref 19), some (.int p1), some (.int p2), some (.int p3), none, none] [] M0 K := by
  have X : z_X T zw266 M0 M0 := .refl hW0
  have f19 : T[19]? = some (.inl (12, 0, 0, 0, 0)) := X.1.k rfl (by decide)
  have q0 : ((0 : Int32)).toInt = 0 := rfl
  have q1 : ((1 : Int32)).toInt = 1 := rfl
  have hmk := z_mk (m := m) (k := p3.toInt.toNat) m6 (by omega)
  have h1m : 1 ≤ m := hY.2.2.1.2
  have hm1 : 1 ≤ m ^ p3.toInt.toNat := Nat.pow_pos hY.2.2.1.2
  refine z_xP zt266 0 2 [some (.ref 19), some (.int p1), some (.int p2), some (.int p3), none, none] [.int 0, .ref 19] rfl rfl ?_
  refine z_xpf zt266 1 rfl zo266 zzf12_339 X f19 (by decide) (by decide) ⟨by omega, by omega⟩ rfl (by decide) zw12_41 (fun M1 X2 e3 h4 => ?_)
  refine z_xP zt266 2 8 [some (.ref 19), some (.int p1), some (.int p2), some (.int p3), none, none] [.int p3, .int p2, .ref 19] rfl rfl ?_
  refine z_xcV (vs := [.ref 19, .int p2, .int p3]) (r := []) (L2 := [some (.ref 19), some (.int p2), some (.int p3), none]) zt266 3 rfl zo266 zzcV12_323 (Or.inl rfl) rfl X2 f19 rfl rfl rfl (Nat.le_of_ble_eq_true rfl) zzm252 (Nat.le_of_ble_eq_true rfl) rfl ?_
  have hG1 := hY.2.1.ke hW0 e3 (by decide)
  have e30 : z_Ar M1 30 = z_Ar M0 30 := e3.a (hW0.k (k := 30) rfl (by decide)) (by decide)
  have e31 := hG1.2.2.2.2.1
  refine zUC252 (S := S) X2.1 up2 ⟨by omega, by omega⟩ rfl ⟨by omega, by omega⟩ hG1 (fun k hk => by rw [e30]; exact hY.2.2.2.1 k hk) hY.2.2.2.2 hY.1 hY.2.2.1.2 (fun M7 X8 hT2 hS2 => ?_)
  have X12 := X2.go X8 (z_sb (by decide))
  show z_ev (d + 5) 266 11 [some (.ref 19), some (.int p1), some (.int p2), some (.int p3), none, none] [] M7 _
  refine z_xP zt266 4 14 [some (.ref 19), some (.int p1), some (.int p2), some (.int p3), some (.int 1), none] [] rfl rfl ?_
  exact (zYB266 hW0 hwp1 hY.2.2.1 m6 up1 un kk 8800).1 M7 (1) none 0 X12 ⟨by omega, by omega⟩ hT2.t0 ⟨0, X8.2.f f19 (by decide) h4, rfl⟩ (fun r hr => absurd hr (Nat.not_lt_zero r)) (Or.inr ⟨rfl, by omega, by rw [z_rw0]; exact hT2, by rw [z_rw0]; exact hS2⟩) (by omega)
theorem y_RW.ke {T : List zK} {M M1 : zH} {a q t m pr en n : Nat} {B : Nat → Nat} {S : Nat → Int32} {A : Int32} {y u : Nat → Nat} {rs : List Nat} (h : y_RW T M a q t m pr en n B S A y u) (X : z_X T rs M M1) (hr : ((z_agr ++ [2229, 30] ++ [2241, 44, 45, 46]).all fun x => !rs.elem x) = true) : y_RW T M1 a q t m pr en n B S A y u := by
  obtain ⟨h0, ⟨kv, h1, h2⟩, h3⟩ := h
  have n0 := z_nin hr
  have hW := h0.1
  have k19 := hW.k (k := 19) (κ := .inl (12, 0, 0, 0, 0)) rfl (by decide)
  have f44 : T[44]? = some (.inr (44, 0, 216, (-2147483648), 2147483647)) := hW.k rfl (by decide)
  have f45 : T[45]? = some (.inr (45, 0, 216, (-2147483648), 2147483647)) := hW.k rfl (by decide)
  have f46 : T[46]? = some (.inr (46, 0, 648, 0, 1023)) := hW.k rfl (by decide)
  refine ⟨h0.ke X (List.all_eq_true.mpr fun x hx => List.all_eq_true.mp hr x (List.mem_append.mpr (Or.inl hx))), ⟨kv, X.2.f k19 (n0 _ rfl) h1, h2⟩, ?_⟩
  rw [X.2.a f44 (n0 _ rfl), X.2.a f45 (n0 _ rfl), X.2.a f46 (n0 _ rfl)]
  exact h3
/-- a row's verdict -/
theorem zYT265 {T : List zK} {d : Nat} {K : Option Value → zH → Prop} {p1 p2 p3 p4 : Int32} {M0 : zH} {q t m pr en : Nat} {B : Nat → Nat} {S : Nat → Int32} {A : Int32} {y u : Nat → Nat} (hm : m = z_lc B (2 ^ q) ∧ 1 ≤ m) (m6 : m ≤ 6) (un : 1 ≤ p3.toInt ∧ p3.toInt ≤ 3) (u4 : 0 ≤ p4.toInt ∧ p4.toInt ≤ 4) (hSA : z_SA q m S A) (hyu : ∀ r, r < m ^ p3.toInt.toNat → y r < 1024 ∧ u r < 1024) {b5 x13 v : Int32} {o7 : Option Value} {M : zH} (X : z_X T zw265 M0 M) (h4 : p4.toInt ≠ 4) (h5 : 0 ≤ b5.toInt ∧ b5.toInt < ((m ^ p3.toInt.toNat : Nat) : Int)) (hI : ∀ e, e < b5.toInt.toNat → ¬ z_brP p4.toInt.toNat B q m p3.toInt.toNat S A y u e) (hv : (v.toInt = 1 ∧ ¬ z_brP p4.toInt.toNat B q m p3.toInt.toNat S A y u b5.toInt.toNat) ∨ (v.toInt = 0 ∧ z_brP p4.toInt.toNat B q m p3.toInt.toNat S A y u b5.toInt.toNat)) (kk : ∀ (x : Int32) (M1 : zH), z_X T zw265 M0 M1 → z_ft (z_brP p4.toInt.toNat B q m p3.toInt.toNat S A y u) (z_brK p4.toInt.toNat m p3.toInt.toNat) x.toInt → K (some (.int x)) M1) (kS : ∀ (x : Int32) (o6 o7 : Option Value), x.toInt = b5.toInt + 1 → (∀ e, e < x.toInt.toNat → ¬ z_brP p4.toInt.toNat B q m p3.toInt.toNat S A y u e) → z_ev (d + 6) 265 118 [some (.ref 19), some (.int p1), some (.int p2), some (.int p3), some (.int p4), some (.int x), o6, o7] [] M K) : z_ev (d + 6) 265 237 [some (.ref 19), some (.int p1), some (.int p2), some (.int p3), some (.int p4), some (.int b5), some (.int x13), o7] [.int v] M K := by
  have hmk := z_mk (m := m) (k := p3.toInt.toNat) m6 (by omega)
  refine z_xP zt265 94 241 [some (.ref 19), some (.int p1), some (.int p2), some (.int p3), some (.int p4), some (.int b5), some (.int x13), some (.int v)] [.int v] rfl rfl ?_
  refine z_xZ zt265 95 rfl rfl (fun (h37 : v.toInt ≠ 0) => ?_) (fun (h37 : v.toInt = 0) => ?_)
  · skip
    refine z_xN zt265 98 rfl rfl (fun (x38 : Int32) (h39 : x38.toInt = b5.toInt + 1) => ?_) (z_pAdd rfl rfl (by omega) (by omega))
    show z_ev (d + 6) 265 250 [some (.ref 19), some (.int p1), some (.int p2), some (.int p3), some (.int p4), some (.int x38), some (.int x13), some (.int v)] [] M _
    refine z_xP zt265 99 118 [some (.ref 19), some (.int p1), some (.int p2), some (.int p3), some (.int p4), some (.int x38), some (.int x13), some (.int v)] [] rfl rfl ?_
    refine kS x38 _ _ h39 (fun e he => ?_)
    by_cases c : e = b5.toInt.toNat
    · rw [c]
      rcases hv with ⟨_, g⟩ | ⟨g, _⟩
      · exact g
      · exact absurd g h37
    · exact hI e (by omega)
  refine z_xP zt265 96 246 [some (.ref 19), some (.int p1), some (.int p2), some (.int p3), some (.int p4), some (.int b5), some (.int x13), some (.int v)] [.int b5] rfl rfl ?_
  refine z_xri zt265 97 rfl zzr265 (kk b5 M X (Or.inr ⟨b5.toInt.toNat, ?_, by omega, ?_, hI⟩))
  · unfold z_brK
    rw [if_neg (by omega)]
    omega
  · rcases hv with ⟨g, _⟩ | ⟨_, g⟩
    · omega
    · exact g
theorem zYB265 {T : List zK} {d : Nat} {K : Option Value → zH → Prop} {p1 p2 p3 p4 : Int32} {M0 : zH} {q t m pr en : Nat} {B : Nat → Nat} {S : Nat → Int32} {A : Int32} {y u : Nat → Nat} (hm : m = z_lc B (2 ^ q) ∧ 1 ≤ m) (m6 : m ≤ 6) (un : 1 ≤ p3.toInt ∧ p3.toInt ≤ 3) (u4 : 0 ≤ p4.toInt ∧ p4.toInt ≤ 4) (hSA : z_SA q m S A) (hyu : ∀ r, r < m ^ p3.toInt.toNat → y r < 1024 ∧ u r < 1024) (h4 : p4.toInt ≠ 4) (kk : ∀ (x : Int32) (M1 : zH), z_X T zw265 M0 M1 → z_ft (z_brP p4.toInt.toNat B q m p3.toInt.toNat S A y u) (z_brK p4.toInt.toNat m p3.toInt.toNat) x.toInt → K (some (.int x)) M1) : ∀ nn : Nat, (∀ (M : zH) (b5 : Int32) (o6 o7 : Option Value), z_X T zw265 M0 M → y_RW T M p2.toNatClampNeg q t m pr en p3.toInt.toNat B S A y u → (0 ≤ b5.toInt ∧ b5.toInt ≤ ((m ^ p3.toInt.toNat : Nat) : Int)) → (∀ e, e < b5.toInt.toNat → ¬ z_brP p4.toInt.toNat B q m p3.toInt.toNat S A y u e) → (220 - b5.toInt) < (nn : Int) → z_ev (d + 6) 265 118 [some (.ref 19), some (.int p1), some (.int p2), some (.int p3), some (.int p4), some (.int b5), o6, o7] [] M K) := by
  intro nn
  induction nn with
  | zero =>
    have hmk := z_mk (m := m) (k := p3.toInt.toNat) m6 (by omega)
    intros
    exfalso
    omega
  | succ nn ih =>
    intro M b5 o6 o7 X hR hb5 hI hE
    have hmk := z_mk (m := m) (k := p3.toInt.toNat) m6 (by omega)
    obtain ⟨⟨hW, ⟨av, hav, ea, a8⟩, hG, hSS, hA, q10⟩, ⟨kv, hkv, ekv⟩, hrow⟩ := id hR
    have f19 : T[19]? = some (.inl (12, 0, 0, 0, 0)) := X.1.k rfl (by decide)
    have f44 : T[44]? = some (.inr (44, 0, 216, (-2147483648), 2147483647)) := X.1.k rfl (by decide)
    have f45 : T[45]? = some (.inr (45, 0, 216, (-2147483648), 2147483647)) := X.1.k rfl (by decide)
    have q0 : ((0 : Int32)).toInt = 0 := rfl
    have q1 : ((1 : Int32)).toInt = 1 := rfl
    refine z_xP zt265 46 121 [some (.ref 19), some (.int p1), some (.int p2), some (.int p3), some (.int p4), some (.int b5), o6, o7] [.ref 19, .int b5] rfl rfl ?_
    refine z_xgv zt265 47 rfl zo265 zzf12_339 X f19 (by decide) hkv ?_
    refine z_xJ zt265 48 rfl rfl (fun (h5 : kv.toInt ≤ b5.toInt) => ?_) (fun (h5 : b5.toInt < kv.toInt) => ?_)
    · skip
      refine z_xP zt265 100 255 [some (.ref 19), some (.int p1), some (.int p2), some (.int p3), some (.int p4), some (.int b5), o6, o7] [.int (-2)] rfl rfl ?_
      refine z_xri zt265 101 rfl zzr265 (kk (-2) M X (Or.inl ⟨rfl, fun r hr => hI r ?_⟩))
      unfold z_brK at hr
      rw [if_neg (by omega)] at hr
      omega
    have hb5L : b5.toInt.toNat < m ^ p3.toInt.toNat := by omega
    have hsB := z_srB m (by omega) p3.toInt.toNat (by omega) b5.toInt.toNat (by omega) hb5L
    have r5 := hrow _ hb5L
    have rs5 := hrow _ hsB
    have e1 : p3.toInt = ((p3.toInt.toNat : Nat) : Int) := by omega
    refine z_xP zt265 49 131 [some (.ref 19), some (.int p1), some (.int p2), some (.int p3), some (.int p4), some (.int b5), o6, o7] [.int p3, .int b5, .ref 19] rfl rfl ?_
    refine z_xcV (vs := [.ref 19, .int b5, .int p3]) (r := []) (L2 := [some (.ref 19), some (.int b5), some (.int p3), none, none, none, none]) zt265 50 rfl zo265 zzcV12_349 (Or.inl rfl) rfl X f19 rfl rfl rfl (Nat.le_of_ble_eq_true rfl) zzm268 (Nat.le_of_ble_eq_true rfl) rfl ?_
    refine zYC268 hR ⟨hm.2, m6⟩ ⟨by omega, by omega⟩ ⟨by omega, hb5L⟩ e1 (fun x13 h13 => ?_)
    show z_ev (d + 6) 265 134 [some (.ref 19), some (.int p1), some (.int p2), some (.int p3), some (.int p4), some (.int b5), o6, o7] [.int x13] M _
    refine z_xP zt265 51 138 [some (.ref 19), some (.int p1), some (.int p2), some (.int p3), some (.int p4), some (.int b5), some (.int x13), o7] [.int p4] rfl rfl ?_
    refine z_xZ zt265 52 rfl rfl (fun (h18 : p4.toInt ≠ 0) => ?_) (fun (h18 : p4.toInt = 0) => ?_)
    · skip
      refine z_xP zt265 73 186 [some (.ref 19), some (.int p1), some (.int p2), some (.int p3), some (.int p4), some (.int b5), some (.int x13), o7] [.int 1, .int p4] rfl rfl ?_
      refine z_xJ zt265 74 rfl rfl (fun (h19 : p4.toInt ≠ 1) => ?_) (fun (h19 : p4.toInt = 1) => ?_)
      · skip
        refine z_xP zt265 78 202 [some (.ref 19), some (.int p1), some (.int p2), some (.int p3), some (.int p4), some (.int b5), some (.int x13), o7] [.int 2, .int p4] rfl rfl ?_
        refine z_xJ zt265 79 rfl rfl (fun (h20 : p4.toInt ≠ 2) => ?_) (fun (h20 : p4.toInt = 2) => ?_)
        · skip
          have eL : p4.toInt.toNat = 3 := by omega
          refine z_xP zt265 83 217 [some (.ref 19), some (.int p1), some (.int p2), some (.int p3), some (.int p4), some (.int b5), some (.int x13), o7] [.ref 19, .ref 19] rfl rfl ?_
          refine z_xgv zt265 84 rfl zo265 zzf12_242 X f19 (by decide) hav ?_
          refine z_xP zt265 85 221 [some (.ref 19), some (.int p1), some (.int p2), some (.int p3), some (.int p4), some (.int b5), some (.int x13), o7] [.ref 19, .int av, .ref 19] rfl rfl ?_
          refine z_xgX (b := 44) zt265 86 rfl zo265 zzf12_82 X f19 (by decide) (by decide) rfl ?_
          refine z_xP zt265 87 226 [some (.ref 19), some (.int p1), some (.int p2), some (.int p3), some (.int p4), some (.int b5), some (.int x13), o7] [.int b5, .ref 44, .int av, .ref 19] rfl rfl ?_
          refine z_xil zt265 88 rfl X f44 (by decide) (by omega) (by omega) (fun (x22 : Int32) h23 (h24 : (-2147483648) ≤ x22.toInt) (h25 : x22.toInt ≤ 2147483647) => ?_)
          have v22 : x22.toInt = (y b5.toInt.toNat : Int) := (congrArg Int32.toInt h23).symm.trans r5.1
          refine z_xP zt265 89 228 [some (.ref 19), some (.int p1), some (.int p2), some (.int p3), some (.int p4), some (.int b5), some (.int x13), o7] [.ref 19, .int x22, .int av, .ref 19] rfl rfl ?_
          refine z_xgX (b := 45) zt265 90 rfl zo265 zzf12_85 X f19 (by decide) (by decide) rfl ?_
          refine z_xP zt265 91 233 [some (.ref 19), some (.int p1), some (.int p2), some (.int p3), some (.int p4), some (.int b5), some (.int x13), o7] [.int b5, .ref 45, .int x22, .int av, .ref 19] rfl rfl ?_
          refine z_xil zt265 92 rfl X f45 (by decide) (by omega) (by omega) (fun (x26 : Int32) h27 (h28 : (-2147483648) ≤ x26.toInt) (h29 : x26.toInt ≤ 2147483647) => ?_)
          have v26 : x26.toInt = (u b5.toInt.toNat : Int) := (congrArg Int32.toInt h27).symm.trans r5.2.1
          have hyb := hyu _ hb5L
          refine z_xcV (vs := [.ref 19, .int av, .int x22, .int x26]) (r := []) (L2 := [some (.ref 19), some (.int av), some (.int x22), some (.int x26), none, none]) zt265 93 rfl zo265 zzcV12_222 (Or.inl rfl) rfl X f19 rfl rfl rfl (Nat.le_of_ble_eq_true rfl) zzm215 (Nat.le_of_ble_eq_true rfl) rfl ?_
          refine zUC215 X.1 ⟨by omega, by omega⟩ (fun x32 M30 X31 h33 h34 h32 => ?_)
          have hc := hR.1.cs hm hav ⟨by omega, by omega⟩ ⟨by omega, by omega⟩ h32
          rw [show x22.toInt.toNat = y b5.toInt.toNat by omega, show x26.toInt.toNat = u b5.toInt.toNat by omega] at hc
          have hR30 := hR.ke X31 (by decide)
          have X35 := X.go X31 (z_sb (by decide))
          show z_ev (d + 6) 265 237 [some (.ref 19), some (.int p1), some (.int p2), some (.int p3), some (.int p4), some (.int b5), some (.int x13), o7] [.int x32] M30 _
          refine zYT265 (t := t) (pr := pr) (en := en) hm m6 un u4 hSA hyu X35 h4 ⟨by omega, by omega⟩ hI ?_ kk (fun x o6 o7 hx hI2 => ih M30 x o6 o7 X35 hR30 ⟨by omega, by omega⟩ hI2 (by omega))
          rw [eL, z_br3]
          rcases hc with ⟨g1, g2⟩ | ⟨g1, g2⟩
          · exact Or.inl ⟨g1, fun g => g g2⟩
          · exact Or.inr ⟨g1, g2⟩
        have eL : p4.toInt.toNat = 2 := by omega
        refine z_xP zt265 80 209 [some (.ref 19), some (.int p1), some (.int p2), some (.int p3), some (.int p4), some (.int b5), some (.int x13), o7] [.int p3, .int b5, .ref 19] rfl rfl ?_
        refine z_xcV (vs := [.ref 19, .int b5, .int p3]) (r := []) (L2 := [some (.ref 19), some (.int b5), some (.int p3), none, none]) zt265 81 rfl zo265 zzcV12_355 (Or.inl rfl) rfl X f19 rfl rfl rfl (Nat.le_of_ble_eq_true rfl) zzm270 (Nat.le_of_ble_eq_true rfl) rfl ?_
        refine zYC270 hR hSA ⟨hm.2, m6⟩ ⟨by omega, by omega⟩ ⟨by omega, hb5L⟩ e1 (fun x44 h44 => ?_)
        show z_ev (d + 6) 265 212 [some (.ref 19), some (.int p1), some (.int p2), some (.int p3), some (.int p4), some (.int b5), some (.int x13), o7] [.int x44] M _
        refine z_xP zt265 82 237 [some (.ref 19), some (.int p1), some (.int p2), some (.int p3), some (.int p4), some (.int b5), some (.int x13), o7] [.int x44] rfl rfl ?_
        refine zYT265 (t := t) (pr := pr) (en := en) hm m6 un u4 hSA hyu X h4 ⟨by omega, by omega⟩ hI ?_ kk (fun x o6 o7 hx hI2 => ih M x o6 o7 X hR ⟨by omega, by omega⟩ hI2 (by omega))
        rw [eL, z_br2]
        exact h44
      have eL : p4.toInt.toNat = 1 := by omega
      refine z_xP zt265 75 193 [some (.ref 19), some (.int p1), some (.int p2), some (.int p3), some (.int p4), some (.int b5), some (.int x13), o7] [.int p3, .int b5, .ref 19] rfl rfl ?_
      refine z_xcV (vs := [.ref 19, .int b5, .int p3]) (r := []) (L2 := [some (.ref 19), some (.int b5), some (.int p3), none, none, none, none, none]) zt265 76 rfl zo265 zzcV12_352 (Or.inl rfl) rfl X f19 rfl rfl rfl (Nat.le_of_ble_eq_true rfl) zzm269 (Nat.le_of_ble_eq_true rfl) rfl ?_
      refine zYC269 hR hSA ⟨hm.2, m6⟩ ⟨by omega, by omega⟩ ⟨by omega, hb5L⟩ e1 (fun x56 h56 => ?_)
      show z_ev (d + 6) 265 196 [some (.ref 19), some (.int p1), some (.int p2), some (.int p3), some (.int p4), some (.int b5), some (.int x13), o7] [.int x56] M _
      refine z_xP zt265 77 237 [some (.ref 19), some (.int p1), some (.int p2), some (.int p3), some (.int p4), some (.int b5), some (.int x13), o7] [.int x56] rfl rfl ?_
      refine zYT265 (t := t) (pr := pr) (en := en) hm m6 un u4 hSA hyu X h4 ⟨by omega, by omega⟩ hI ?_ kk (fun x o6 o7 hx hI2 => ih M x o6 o7 X hR ⟨by omega, by omega⟩ hI2 (by omega))
      rw [eL, z_br1]
      exact h56
    have eL : p4.toInt.toNat = 0 := by omega
    refine z_xP zt265 53 142 [some (.ref 19), some (.int p1), some (.int p2), some (.int p3), some (.int p4), some (.int b5), some (.int x13), o7] [.ref 19] rfl rfl ?_
    refine z_xgX (b := 44) zt265 54 rfl zo265 zzf12_82 X f19 (by decide) (by decide) rfl ?_
    refine z_xP zt265 55 147 [some (.ref 19), some (.int p1), some (.int p2), some (.int p3), some (.int p4), some (.int b5), some (.int x13), o7] [.int b5, .ref 44] rfl rfl ?_
    refine z_xil zt265 56 rfl X f44 (by decide) (by omega) (by omega) (fun (x66 : Int32) h67 (h68 : (-2147483648) ≤ x66.toInt) (h69 : x66.toInt ≤ 2147483647) => ?_)
    have v66 : x66.toInt = (y b5.toInt.toNat : Int) := (congrArg Int32.toInt h67).symm.trans r5.1
    refine z_xP zt265 57 149 [some (.ref 19), some (.int p1), some (.int p2), some (.int p3), some (.int p4), some (.int b5), some (.int x13), o7] [.ref 19, .int x66] rfl rfl ?_
    refine z_xgX (b := 44) zt265 58 rfl zo265 zzf12_82 X f19 (by decide) (by decide) rfl ?_
    refine z_xP zt265 59 154 [some (.ref 19), some (.int p1), some (.int p2), some (.int p3), some (.int p4), some (.int b5), some (.int x13), o7] [.int x13, .ref 44, .int x66] rfl rfl ?_
    refine z_xil zt265 60 rfl X f44 (by decide) (by omega) (by omega) (fun (x70 : Int32) h71 (h72 : (-2147483648) ≤ x70.toInt) (h73 : x70.toInt ≤ 2147483647) => ?_)
    have i13 : x13.toNatClampNeg = z_srt m p3.toInt.toNat b5.toInt.toNat := by
      show x13.toInt.toNat = _
      omega
    rw [i13] at h71
    have v70 : x70.toInt = (y (z_srt m p3.toInt.toNat b5.toInt.toNat) : Int) := (congrArg Int32.toInt h71).symm.trans rs5.1
    refine z_xJ zt265 61 rfl rfl (fun (h76 : x66.toInt ≠ x70.toInt) => ?_) (fun (h76 : x66.toInt = x70.toInt) => ?_)
    · skip
      refine z_xP zt265 72 237 [some (.ref 19), some (.int p1), some (.int p2), some (.int p3), some (.int p4), some (.int b5), some (.int x13), o7] [.int 0] rfl rfl ?_
      refine zYT265 (t := t) (pr := pr) (en := en) hm m6 un u4 hSA hyu X h4 ⟨by omega, by omega⟩ hI (Or.inr ⟨rfl, ?_⟩) kk (fun x o6 o7 hx hI2 => ih M x o6 o7 X hR ⟨by omega, by omega⟩ hI2 (by omega))
      rw [eL, z_br0]
      intro g
      exact h76 (by omega)
    refine z_xP zt265 62 159 [some (.ref 19), some (.int p1), some (.int p2), some (.int p3), some (.int p4), some (.int b5), some (.int x13), o7] [.ref 19] rfl rfl ?_
    refine z_xgX (b := 45) zt265 63 rfl zo265 zzf12_85 X f19 (by decide) (by decide) rfl ?_
    refine z_xP zt265 64 164 [some (.ref 19), some (.int p1), some (.int p2), some (.int p3), some (.int p4), some (.int b5), some (.int x13), o7] [.int b5, .ref 45] rfl rfl ?_
    refine z_xil zt265 65 rfl X f45 (by decide) (by omega) (by omega) (fun (x78 : Int32) h79 (h80 : (-2147483648) ≤ x78.toInt) (h81 : x78.toInt ≤ 2147483647) => ?_)
    have v78 : x78.toInt = (u b5.toInt.toNat : Int) := (congrArg Int32.toInt h79).symm.trans r5.2.1
    refine z_xP zt265 66 166 [some (.ref 19), some (.int p1), some (.int p2), some (.int p3), some (.int p4), some (.int b5), some (.int x13), o7] [.ref 19, .int x78] rfl rfl ?_
    refine z_xgX (b := 45) zt265 67 rfl zo265 zzf12_85 X f19 (by decide) (by decide) rfl ?_
    refine z_xP zt265 68 171 [some (.ref 19), some (.int p1), some (.int p2), some (.int p3), some (.int p4), some (.int b5), some (.int x13), o7] [.int x13, .ref 45, .int x78] rfl rfl ?_
    refine z_xil zt265 69 rfl X f45 (by decide) (by omega) (by omega) (fun (x82 : Int32) h83 (h84 : (-2147483648) ≤ x82.toInt) (h85 : x82.toInt ≤ 2147483647) => ?_)
    rw [i13] at h83
    have v82 : x82.toInt = (u (z_srt m p3.toInt.toNat b5.toInt.toNat) : Int) := (congrArg Int32.toInt h83).symm.trans rs5.2.1
    refine z_xJ zt265 70 rfl rfl (fun (h88 : x78.toInt ≠ x82.toInt) => ?_) (fun (h88 : x78.toInt = x82.toInt) => ?_)
    · skip
      refine z_xP zt265 72 237 [some (.ref 19), some (.int p1), some (.int p2), some (.int p3), some (.int p4), some (.int b5), some (.int x13), o7] [.int 0] rfl rfl ?_
      refine zYT265 (t := t) (pr := pr) (en := en) hm m6 un u4 hSA hyu X h4 ⟨by omega, by omega⟩ hI (Or.inr ⟨rfl, ?_⟩) kk (fun x o6 o7 hx hI2 => ih M x o6 o7 X hR ⟨by omega, by omega⟩ hI2 (by omega))
      rw [eL, z_br0]
      intro g
      exact h88 (by omega)
    refine z_xP zt265 71 237 [some (.ref 19), some (.int p1), some (.int p2), some (.int p3), some (.int p4), some (.int b5), some (.int x13), o7] [.int 1] rfl rfl ?_
    refine zYT265 (t := t) (pr := pr) (en := en) hm m6 un u4 hSA hyu X h4 ⟨by omega, by omega⟩ hI (Or.inl ⟨rfl, ?_⟩) kk (fun x o6 o7 hx hI2 => ih M x o6 o7 X hR ⟨by omega, by omega⟩ hI2 (by omega))
    rw [eL, z_br0]
    exact fun g => g ⟨by omega, by omega⟩
theorem zYF265 {T : List zK} {d : Nat} {K : Option Value → zH → Prop} {p1 p2 p3 p4 : Int32} {M0 : zH} {q t m pr en : Nat} {B : Nat → Nat} {S : Nat → Int32} {A : Int32} {y u : Nat → Nat} (hm : m = z_lc B (2 ^ q) ∧ 1 ≤ m) (m6 : m ≤ 6) (un : 1 ≤ p3.toInt ∧ p3.toInt ≤ 3) (u4 : 0 ≤ p4.toInt ∧ p4.toInt ≤ 4) (hSA : z_SA q m S A) (hyu : ∀ r, r < m ^ p3.toInt.toNat → y r < 1024 ∧ u r < 1024) (h4 : p4.toInt = 4) (kk : ∀ (x : Int32) (M1 : zH), z_X T zw265 M0 M1 → z_ft (z_brP p4.toInt.toNat B q m p3.toInt.toNat S A y u) (z_brK p4.toInt.toNat m p3.toInt.toNat) x.toInt → K (some (.int x)) M1) {M : zH} (X : z_X T zw265 M0 M) (hR : y_RW T M p2.toNatClampNeg q t m pr en p3.toInt.toNat B S A y u) : ∀ nn : Nat, (∀ (b5 : Int32) (o6 o7 : Option Value), (0 ≤ b5.toInt ∧ b5.toInt ≤ p3.toInt) → (∀ e, e < b5.toInt.toNat → ¬ z_brP p4.toInt.toNat B q m p3.toInt.toNat S A y u e) → (3 - b5.toInt) * 300 + 250 < (nn : Int) → z_ev (d + 6) 265 16 [some (.ref 19), some (.int p1), some (.int p2), some (.int p3), some (.int p4), some (.int b5), o6, o7] [] M K) ∧ (∀ (b5 b6 b7 : Int32), (0 ≤ b5.toInt ∧ b5.toInt < p3.toInt) → (∀ e, e < b5.toInt.toNat → ¬ z_brP p4.toInt.toNat B q m p3.toInt.toNat S A y u e) → (0 ≤ b7.toInt ∧ b7.toInt ≤ ((m ^ p3.toInt.toNat : Nat) : Int)) → ((b6.toInt = 1 ∧ ∀ r, r < b7.toInt.toNat → z_own S A (z_rw m p3.toInt.toNat r b5.toInt.toNat) (y r) (u r)) ∨ (b6.toInt = 0 ∧ ∃ r, r < m ^ p3.toInt.toNat ∧ ¬ z_own S A (z_rw m p3.toInt.toNat r b5.toInt.toNat) (y r) (u r))) → (3 - b5.toInt) * 300 + (220 - b7.toInt) < (nn : Int) → z_ev (d + 6) 265 28 [some (.ref 19), some (.int p1), some (.int p2), some (.int p3), some (.int p4), some (.int b5), some (.int b6), some (.int b7)] [] M K) := by
  intro nn
  induction nn with
  | zero =>
    have hmk := z_mk (m := m) (k := p3.toInt.toNat) m6 (by omega)
    exact ⟨(by intros; exfalso; omega), (by intros; exfalso; omega)⟩
  | succ nn ih =>
    have hmk := z_mk (m := m) (k := p3.toInt.toNat) m6 (by omega)
    obtain ⟨⟨hW, ⟨av, hav, ea, a8⟩, hG, hSS, hA, q10⟩, ⟨kv, hkv, ekv⟩, hrow⟩ := id hR
    have f19 : T[19]? = some (.inl (12, 0, 0, 0, 0)) := X.1.k rfl (by decide)
    have f44 : T[44]? = some (.inr (44, 0, 216, (-2147483648), 2147483647)) := X.1.k rfl (by decide)
    have f45 : T[45]? = some (.inr (45, 0, 216, (-2147483648), 2147483647)) := X.1.k rfl (by decide)
    have q0 : ((0 : Int32)).toInt = 0 := rfl
    have q1 : ((1 : Int32)).toInt = 1 := rfl
    have eL : p4.toInt.toNat = 4 := by omega
    refine ⟨?_, ?_⟩
    · skip
      intro b5 o6 o7 hb5 hI hE
      refine z_xP zt265 5 19 [some (.ref 19), some (.int p1), some (.int p2), some (.int p3), some (.int p4), some (.int b5), o6, o7] [.int p3, .int b5] rfl rfl ?_
      refine z_xJ zt265 6 rfl rfl (fun (h1 : p3.toInt ≤ b5.toInt) => ?_) (fun (h1 : b5.toInt < p3.toInt) => ?_)
      · skip
        refine z_xP zt265 43 114 [some (.ref 19), some (.int p1), some (.int p2), some (.int p3), some (.int p4), some (.int b5), o6, o7] [.int (-2)] rfl rfl ?_
        refine z_xri zt265 44 rfl zzr265 (kk (-2) M X (Or.inl ⟨rfl, fun r hr => hI r ?_⟩))
        unfold z_brK at hr
        rw [if_pos eL] at hr
        omega
      refine z_xP zt265 7 28 [some (.ref 19), some (.int p1), some (.int p2), some (.int p3), some (.int p4), some (.int b5), some (.int 1), some (.int 0)] [] rfl rfl ?_
      exact ih.2 b5 (1) (0) ⟨by omega, by omega⟩ hI ⟨by omega, by omega⟩ (Or.inl ⟨rfl, fun r hr => absurd hr (Nat.not_lt_zero r)⟩) (by omega)
    · skip
      intro b5 b6 b7 hb5 hI hb7 h6 hE
      refine z_xP zt265 8 31 [some (.ref 19), some (.int p1), some (.int p2), some (.int p3), some (.int p4), some (.int b5), some (.int b6), some (.int b7)] [.ref 19, .int b7] rfl rfl ?_
      refine z_xgv zt265 9 rfl zo265 zzf12_339 X f19 (by decide) hkv ?_
      refine z_xJ zt265 10 rfl rfl (fun (h5 : kv.toInt ≤ b7.toInt) => ?_) (fun (h5 : b7.toInt < kv.toInt) => ?_)
      · skip
        refine z_xP zt265 37 100 [some (.ref 19), some (.int p1), some (.int p2), some (.int p3), some (.int p4), some (.int b5), some (.int b6), some (.int b7)] [.int b6] rfl rfl ?_
        refine z_xZ zt265 38 rfl rfl (fun (h6b : b6.toInt = 0) => ?_) (fun (h6b : b6.toInt ≠ 0) => ?_)
        · skip
          refine z_xN zt265 41 rfl rfl (fun (x7 : Int32) (h8 : x7.toInt = b5.toInt + 1) => ?_) (z_pAdd rfl rfl (by omega) (by omega))
          show z_ev (d + 6) 265 109 [some (.ref 19), some (.int p1), some (.int p2), some (.int p3), some (.int p4), some (.int x7), some (.int b6), some (.int b7)] [] M _
          refine z_xP zt265 42 16 [some (.ref 19), some (.int p1), some (.int p2), some (.int p3), some (.int p4), some (.int x7), some (.int b6), some (.int b7)] [] rfl rfl ?_
          refine ih.1 x7 (some (.int b6)) (some (.int b7)) ⟨by omega, by omega⟩ (fun e he => ?_) (by omega)
          by_cases c : e = b5.toInt.toNat
          · rw [c, eL, z_br4]
            intro g
            rcases h6 with ⟨g6, _⟩ | ⟨_, r, hr, g6⟩
            · omega
            · exact g6 (g r hr)
          · exact hI e (by omega)
        refine z_xP zt265 39 105 [some (.ref 19), some (.int p1), some (.int p2), some (.int p3), some (.int p4), some (.int b5), some (.int b6), some (.int b7)] [.int b5] rfl rfl ?_
        refine z_xri zt265 40 rfl zzr265 (kk b5 M X (Or.inr ⟨b5.toInt.toNat, ?_, by omega, ?_, hI⟩))
        · unfold z_brK
          rw [if_pos eL]
          omega
        · rw [eL, z_br4]
          intro e he
          rcases h6 with ⟨_, g6⟩ | ⟨g6, _⟩
          · exact g6 e (by omega)
          · exact absurd g6 h6b
      refine z_xP zt265 11 39 [some (.ref 19), some (.int p1), some (.int p2), some (.int p3), some (.int p4), some (.int b5), some (.int b6), some (.int b7)] [.int b6] rfl rfl ?_
      refine z_xZ zt265 12 rfl rfl (fun (h9 : b6.toInt = 0) => ?_) (fun (h9 : b6.toInt ≠ 0) => ?_)
      · skip
        refine z_xP zt265 33 90 [some (.ref 19), some (.int p1), some (.int p2), some (.int p3), some (.int p4), some (.int b5), some (.int b6), some (.int b7)] [.int 0] rfl rfl ?_
        refine z_xP zt265 34 92 [some (.ref 19), some (.int p1), some (.int p2), some (.int p3), some (.int p4), some (.int b5), some (.int 0), some (.int b7)] [] rfl rfl ?_
        refine z_xN zt265 35 rfl rfl (fun (x10 : Int32) (h11 : x10.toInt = b7.toInt + 1) => ?_) (z_pAdd rfl rfl (by omega) (by omega))
        show z_ev (d + 6) 265 95 [some (.ref 19), some (.int p1), some (.int p2), some (.int p3), some (.int p4), some (.int b5), some (.int 0), some (.int x10)] [] M _
        refine z_xP zt265 36 28 [some (.ref 19), some (.int p1), some (.int p2), some (.int p3), some (.int p4), some (.int b5), some (.int 0), some (.int x10)] [] rfl rfl ?_
        refine ih.2 b5 (0) x10 hb5 hI ⟨by omega, by omega⟩ (Or.inr ⟨rfl, ?_⟩) (by omega)
        rcases h6 with ⟨g6, _⟩ | ⟨_, g6⟩
        · omega
        · exact g6
      have hall : ∀ r, r < b7.toInt.toNat → z_own S A (z_rw m p3.toInt.toNat r b5.toInt.toNat) (y r) (u r) := by
        rcases h6 with ⟨_, g6⟩ | ⟨g6, _⟩
        · exact g6
        · exact absurd g6 h9
      have hb7L : b7.toInt.toNat < m ^ p3.toInt.toNat := by omega
      have r7 := hrow _ hb7L
      have hrB := z_rwB (m := m) (n := p3.toInt.toNat) (r := b7.toInt.toNat) hm.2 b5.toInt.toNat
      have lo1 := hSA.2.2 _ hrB
      refine z_xP zt265 13 43 [some (.ref 19), some (.int p1), some (.int p2), some (.int p3), some (.int p4), some (.int b5), some (.int b6), some (.int b7)] [.ref 19] rfl rfl ?_
      refine z_xgX (b := 44) zt265 14 rfl zo265 zzf12_82 X f19 (by decide) (by decide) rfl ?_
      refine z_xP zt265 15 48 [some (.ref 19), some (.int p1), some (.int p2), some (.int p3), some (.int p4), some (.int b5), some (.int b6), some (.int b7)] [.int b7, .ref 44] rfl rfl ?_
      refine z_xil zt265 16 rfl X f44 (by decide) (by omega) (by omega) (fun (x12 : Int32) h13 (h14 : (-2147483648) ≤ x12.toInt) (h15 : x12.toInt ≤ 2147483647) => ?_)
      have v12 : x12.toInt = (y b7.toInt.toNat : Int) := (congrArg Int32.toInt h13).symm.trans r7.1
      refine z_xP zt265 17 54 [some (.ref 19), some (.int p1), some (.int p2), some (.int p3), some (.int p4), some (.int b5), some (.int b6), some (.int b7)] [.int b5, .int b7, .ref 19, .int x12] rfl rfl ?_
      refine z_xcV (vs := [.ref 19, .int b7, .int b5]) (r := [.int x12]) (L2 := [some (.ref 19), some (.int b7), some (.int b5)]) zt265 18 rfl zo265 zzcV12_342 (Or.inl rfl) rfl X f19 rfl rfl rfl (Nat.le_of_ble_eq_true rfl) zzm267 (Nat.le_of_ble_eq_true rfl) rfl ?_
      refine zYC267 hR ⟨hm.2, m6⟩ ⟨by omega, by omega⟩ ⟨by omega, hb7L⟩ ⟨by omega, by omega⟩ (fun x18 h18 => ?_)
      show z_ev (d + 6) 265 57 [some (.ref 19), some (.int p1), some (.int p2), some (.int p3), some (.int p4), some (.int b5), some (.int b6), some (.int b7)] [.int x18, .int x12] M _
      have hno : ∀ (x : Int32), (x.toInt = b7.toInt + 1) → ¬ z_own S A (z_rw m p3.toInt.toNat b7.toInt.toNat b5.toInt.toNat) (y b7.toInt.toNat) (u b7.toInt.toNat) → z_ev (d + 6) 265 28 [some (.ref 19), some (.int p1), some (.int p2), some (.int p3), some (.int p4), some (.int b5), some (.int 0), some (.int x)] [] M K := fun x hx g => ih.2 b5 (0) x hb5 hI ⟨by omega, by omega⟩ (Or.inr ⟨rfl, b7.toInt.toNat, hb7L, g⟩) (by omega)
      refine z_xJ zt265 19 rfl rfl (fun (h24 : x12.toInt ≠ x18.toInt) => ?_) (fun (h24 : x12.toInt = x18.toInt) => ?_)
      · skip
        refine z_xP zt265 33 90 [some (.ref 19), some (.int p1), some (.int p2), some (.int p3), some (.int p4), some (.int b5), some (.int b6), some (.int b7)] [.int 0] rfl rfl ?_
        refine z_xP zt265 34 92 [some (.ref 19), some (.int p1), some (.int p2), some (.int p3), some (.int p4), some (.int b5), some (.int 0), some (.int b7)] [] rfl rfl ?_
        refine z_xN zt265 35 rfl rfl (fun (x25 : Int32) (h26 : x25.toInt = b7.toInt + 1) => ?_) (z_pAdd rfl rfl (by omega) (by omega))
        show z_ev (d + 6) 265 95 [some (.ref 19), some (.int p1), some (.int p2), some (.int p3), some (.int p4), some (.int b5), some (.int 0), some (.int x25)] [] M _
        refine z_xP zt265 36 28 [some (.ref 19), some (.int p1), some (.int p2), some (.int p3), some (.int p4), some (.int b5), some (.int 0), some (.int x25)] [] rfl rfl ?_
        refine hno x25 h26 (fun g => h24 ?_)
        have := g.1
        rw [h18]
        omega
      refine z_xP zt265 20 61 [some (.ref 19), some (.int p1), some (.int p2), some (.int p3), some (.int p4), some (.int b5), some (.int b6), some (.int b7)] [.ref 19] rfl rfl ?_
      refine z_xgX (b := 45) zt265 21 rfl zo265 zzf12_85 X f19 (by decide) (by decide) rfl ?_
      refine z_xP zt265 22 66 [some (.ref 19), some (.int p1), some (.int p2), some (.int p3), some (.int p4), some (.int b5), some (.int b6), some (.int b7)] [.int b7, .ref 45] rfl rfl ?_
      refine z_xil zt265 23 rfl X f45 (by decide) (by omega) (by omega) (fun (x27 : Int32) h28 (h29 : (-2147483648) ≤ x27.toInt) (h30 : x27.toInt ≤ 2147483647) => ?_)
      have v27 : x27.toInt = (u b7.toInt.toNat : Int) := (congrArg Int32.toInt h28).symm.trans r7.2.1
      refine z_xP zt265 24 68 [some (.ref 19), some (.int p1), some (.int p2), some (.int p3), some (.int p4), some (.int b5), some (.int b6), some (.int b7)] [.ref 19, .int x27] rfl rfl ?_
      refine z_xcV (vs := [.ref 19]) (r := [.int x27]) (L2 := [some (.ref 19)]) zt265 25 rfl zo265 zzcV12_248 (Or.inl rfl) rfl X f19 rfl rfl rfl (Nat.le_of_ble_eq_true rfl) zzm240 (Nat.le_of_ble_eq_true rfl) rfl ?_
      refine zYC240 hR (fun x41 h41 => ?_)
      show z_ev (d + 6) 265 71 [some (.ref 19), some (.int p1), some (.int p2), some (.int p3), some (.int p4), some (.int b5), some (.int b6), some (.int b7)] [.int x41, .int x27] M _
      refine z_xP zt265 26 76 [some (.ref 19), some (.int p1), some (.int p2), some (.int p3), some (.int p4), some (.int b5), some (.int b6), some (.int b7)] [.int b5, .int b7, .ref 19, .int x41, .int x27] rfl rfl ?_
      refine z_xcV (vs := [.ref 19, .int b7, .int b5]) (r := [.int x41, .int x27]) (L2 := [some (.ref 19), some (.int b7), some (.int b5)]) zt265 27 rfl zo265 zzcV12_342 (Or.inl rfl) rfl X f19 rfl rfl rfl (Nat.le_of_ble_eq_true rfl) zzm267 (Nat.le_of_ble_eq_true rfl) rfl ?_
      refine zYC267 hR ⟨hm.2, m6⟩ ⟨by omega, by omega⟩ ⟨by omega, hb7L⟩ ⟨by omega, by omega⟩ (fun x45 h45 => ?_)
      show z_ev (d + 6) 265 79 [some (.ref 19), some (.int p1), some (.int p2), some (.int p3), some (.int p4), some (.int b5), some (.int b6), some (.int b7)] [.int x45, .int x41, .int x27] M _
      refine z_xP zt265 28 80 [some (.ref 19), some (.int p1), some (.int p2), some (.int p3), some (.int p4), some (.int b5), some (.int b6), some (.int b7)] [.int (-1), .int x45, .int x41, .int x27] rfl rfl ?_
      refine z_xI zt265 29 rfl rfl (fun (x50 : Int32) (h50 : x50 = x45 ^^^ (-1 : Int32)) => ?_) rfl
      refine z_xI zt265 30 rfl rfl (fun (x52 : Int32) (h52 : x52 = x41 &&& x50) => ?_) rfl
      have e52 : x52 = A &&& (S (z_rw m p3.toInt.toNat b7.toInt.toNat b5.toInt.toNat) ^^^ (-1 : Int32)) := by rw [h52, h50, h41, h45]
      have hA2 := z_p21 hA q10.2
      obtain ⟨n0, _, _⟩ := z_ib_no (x := S (z_rw m p3.toInt.toNat b7.toInt.toNat b5.toInt.toNat)) (v := A) (y := S (z_rw m p3.toInt.toNat b7.toInt.toNat b5.toInt.toNat) ^^^ (-1 : Int32)) (z := A &&& (S (z_rw m p3.toInt.toNat b7.toInt.toNat b5.toInt.toNat) ^^^ (-1 : Int32))) rfl rfl hA2.1 lo1.1
      refine z_xJ zt265 31 rfl rfl (fun (h55 : x27.toInt ≠ x52.toInt) => ?_) (fun (h55 : x27.toInt = x52.toInt) => ?_)
      · skip
        refine z_xP zt265 33 90 [some (.ref 19), some (.int p1), some (.int p2), some (.int p3), some (.int p4), some (.int b5), some (.int b6), some (.int b7)] [.int 0] rfl rfl ?_
        refine z_xP zt265 34 92 [some (.ref 19), some (.int p1), some (.int p2), some (.int p3), some (.int p4), some (.int b5), some (.int 0), some (.int b7)] [] rfl rfl ?_
        refine z_xN zt265 35 rfl rfl (fun (x56 : Int32) (h57 : x56.toInt = b7.toInt + 1) => ?_) (z_pAdd rfl rfl (by omega) (by omega))
        show z_ev (d + 6) 265 95 [some (.ref 19), some (.int p1), some (.int p2), some (.int p3), some (.int p4), some (.int b5), some (.int 0), some (.int x56)] [] M _
        refine z_xP zt265 36 28 [some (.ref 19), some (.int p1), some (.int p2), some (.int p3), some (.int p4), some (.int b5), some (.int 0), some (.int x56)] [] rfl rfl ?_
        refine hno x56 h57 (fun g => h55 ?_)
        have := g.2
        rw [e52]
        omega
      refine z_xP zt265 32 90 [some (.ref 19), some (.int p1), some (.int p2), some (.int p3), some (.int p4), some (.int b5), some (.int b6), some (.int b7)] [.int 1] rfl rfl ?_
      refine z_xP zt265 34 92 [some (.ref 19), some (.int p1), some (.int p2), some (.int p3), some (.int p4), some (.int b5), some (.int 1), some (.int b7)] [] rfl rfl ?_
      refine z_xN zt265 35 rfl rfl (fun (x58 : Int32) (h59 : x58.toInt = b7.toInt + 1) => ?_) (z_pAdd rfl rfl (by omega) (by omega))
      show z_ev (d + 6) 265 95 [some (.ref 19), some (.int p1), some (.int p2), some (.int p3), some (.int p4), some (.int b5), some (.int 1), some (.int x58)] [] M _
      refine z_xP zt265 36 28 [some (.ref 19), some (.int p1), some (.int p2), some (.int p3), some (.int p4), some (.int b5), some (.int 1), some (.int x58)] [] rfl rfl ?_
      refine ih.2 b5 (1) x58 hb5 hI ⟨by omega, by omega⟩ (Or.inl ⟨rfl, fun r hr => ?_⟩) (by omega)
      by_cases c : r = b7.toInt.toNat
      · rw [c]
        rw [h18] at h24
        rw [e52] at h55
        exact ⟨by omega, by omega⟩
      · exact hall r (by omega)
theorem zYC265 {T : List zK} {d : Nat} {K : Option Value → zH → Prop} {p1 p2 p3 p4 : Int32} {M0 : zH} {q t m pr en kd sh ch : Nat} {B : Nat → Nat} {S : Nat → Int32} {A : Int32} (hW0 : z_W M0 T) (hwp1 : y_wy M0 p1 kd sh ch) (hY : y_tnb M0 p2.toNatClampNeg q t m pr en B S A) (m6 : m ≤ 6) (up1 : 0 ≤ p1.toInt ∧ p1.toInt ≤ 19) (up2 : 0 ≤ p2.toInt ∧ p2.toInt ≤ 7) (un : 1 ≤ p3.toInt ∧ p3.toInt ≤ 3) (u4 : 0 ≤ p4.toInt ∧ p4.toInt ≤ 4) (kk : ∀ (x : Int32) (M1 : zH), z_X T zw265 M0 M1 → z_bre p4.toInt.toNat (kd + 4) B q pr en sh ch m p3.toInt.toNat S A x.toInt → K (some (.int x)) M1) : z_ev (d + 6) 265 0 [some (.ref 19), some (.int p1), some (.int p2), some (.int p3), some (.int p4), none, none, none] [] M0 K := by
  have X : z_X T zw265 M0 M0 := .refl hW0
  have f19 : T[19]? = some (.inl (12, 0, 0, 0, 0)) := X.1.k rfl (by decide)
  have q0 : ((0 : Int32)).toInt = 0 := rfl
  have hmk := z_mk (m := m) (k := p3.toInt.toNat) m6 (by omega)
  have hSA : z_SA q m S A := ⟨hY.1, hY.2.2.2.2, fun v hv => by
    obtain ⟨s, s1, s2, s3⟩ := z_lc_ex (B := B) (2 ^ q) v (by have := hY.2.2.1.1; omega)
    have e : (z_Ar M0 30 (1024 * p2.toNatClampNeg + z_lc B s)).toInt = (s : Int) := hY.2.1.2.2.2.2.2.2 s s1 s2
    rw [s3, hY.2.2.2.1 v hv] at e
    rw [e]
    exact ⟨Int.natCast_nonneg _, Int.ofNat_lt.mpr s1⟩⟩
  refine z_xP zt265 0 4 [some (.ref 19), some (.int p1), some (.int p2), some (.int p3), some (.int p4), none, none, none] [.int p3, .int p2, .int p1, .ref 19] rfl rfl ?_
  refine z_xcV (vs := [.ref 19, .int p1, .int p2, .int p3]) (r := []) (L2 := [some (.ref 19), some (.int p1), some (.int p2), some (.int p3), none, none]) zt265 1 rfl zo265 zzcV12_345 (Or.inl rfl) rfl X f19 rfl rfl rfl (Nat.le_of_ble_eq_true rfl) zzm266 (Nat.le_of_ble_eq_true rfl) rfl ?_
  refine zYC266 hW0 hwp1 hY m6 up1 up2 un (fun M5 X6 hR hros => ?_)
  have hyu : ∀ r, r < m ^ p3.toInt.toNat → (z_Ar M5 44 r).toInt.toNat < 1024 ∧ (z_Ar M5 45 r).toInt.toNat < 1024 := fun r hr => by
    obtain ⟨_, _, _, _, _, hw⟩ := hros r hr
    have h := z_outL hw hY.1.1
    dsimp only at h
    have hP : 2 ^ q ≤ 1024 := Nat.pow_le_pow_right (n := 2) (j := 10) (by decide) hY.1.2
    exact ⟨by omega, by omega⟩
  have X11 := X.go X6 (z_sb (by decide))
  show z_ev (d + 6) 265 7 [some (.ref 19), some (.int p1), some (.int p2), some (.int p3), some (.int p4), none, none, none] [] M5 _
  refine z_xP zt265 2 10 [some (.ref 19), some (.int p1), some (.int p2), some (.int p3), some (.int p4), none, none, none] [.int 4, .int p4] rfl rfl ?_
  refine z_xJ zt265 3 rfl rfl (fun (h15 : p4.toInt ≠ 4) => ?_) (fun (h15 : p4.toInt = 4) => ?_)
  · skip
    refine z_xP zt265 45 118 [some (.ref 19), some (.int p1), some (.int p2), some (.int p3), some (.int p4), some (.int 0), none, none] [] rfl rfl ?_
    exact zYB265 hY.2.2.1 m6 un u4 hSA hyu h15 (fun x M1 X1 h => kk x M1 X1 ⟨_, _, hros, h⟩) 300 M5 (0) none none X11 hR ⟨by omega, by omega⟩ (fun e he => absurd he (Nat.not_lt_zero e)) (by omega)
  refine z_xP zt265 4 16 [some (.ref 19), some (.int p1), some (.int p2), some (.int p3), some (.int p4), some (.int 0), none, none] [] rfl rfl ?_
  exact (zYF265 hY.2.2.1 m6 un u4 hSA hyu h15 (fun x M1 X1 h => kk x M1 X1 ⟨_, _, hros, h⟩) X11 hR 1300).1 (0) none none ⟨by omega, by omega⟩ (fun e he => absurd he (Nat.not_lt_zero e)) (by omega)
