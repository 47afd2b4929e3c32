/-! an agenda is made: its constructor up to its loop -/
theorem zzi23 : ((z_name 23).name == "<init>") = true := by decide +kernel
theorem zzn2 : "DoorBench$Agenda" = z_cn 2 := by decide +kernel
theorem zzcI2_3 : (z_find z_cI 2 3).map (·.1) = some (7, 0, []) := by decide +kernel
theorem zzf2_19 : z_fF 2 19 = some ((2, [2]), "DoorBench$Agenda") := by decide +kernel
theorem zzf2_22 : z_fF 2 22 = some ((3, [2]), "DoorBench$Agenda") := by decide +kernel
theorem z_blle {q : Nat} (h : q ≤ 6) : z_bl q = 1 := if_pos h
theorem z_blgt {q : Nat} (h : 6 < q) : z_bl q = 2 ^ (q - 6) := if_neg (by omega)
theorem z_blb {q : Nat} (h0 : 1 ≤ q) (h1 : q ≤ 10) : 1 ≤ z_bl q ∧ z_bl q ≤ 16 := by
  have : ∀ k : Nat, k < 11 → 1 ≤ z_bl k ∧ z_bl k ≤ 16 := by decide
  exact this q (by omega)
theorem z_pob {q : Nat} (h1 : q ≤ 10) : z_po q ≤ 1024 ∧ 1 ≤ z_po q := by
  have : ∀ k : Nat, k < 11 → z_po k ≤ 1024 ∧ 1 ≤ z_po k := by decide
  exact this q (by omega)
theorem z_pob2 {q : Nat} (h1 : q ≤ 10) : 2 ^ (q - 6) ≤ 16 := by
  have : ∀ k : Nat, k < 11 → 2 ^ (k - 6) ≤ 16 := by decide
  exact this q (by omega)
theorem z_nlo {x : Int32} (h0 : 0 ≤ x.toInt) (h1 : x.toInt ≤ 1000000) : ¬ (x < 0 ∨ 1000000 < x.toNatClampNeg) := fun h => h.elim (fun h => by have := Int32.lt_iff_toInt_lt.mp h; rw [show (0 : Int32).toInt = 0 from rfl] at this; omega) (fun h => by unfold Int32.toNatClampNeg at h; omega)
theorem zA23c {d q kp : Nat} {p1 p2 p3 p4 : Int32} {M : zH} {K : Option Value → zH → Prop} (hN : 4 ≤ M.length) (hq : p1.toInt = (q : Int)) (q0 : 1 ≤ q) (q1 : q ≤ 10) {av bv : Int32} (ha : av.toInt = (z_po q : Int) - 1) (hb : bv.toInt = (z_bl q : Int)) {wv : Int64} (hT : ∀ (av bv : Int32) (wv : Int64), av.toInt = (z_po q : Int) - 1 → bv.toInt = (z_bl q : Int) → z_ev d 23 111 [some (.ref M.length), some (.int p1), some (.int p2), some (.int p3), some (.int p4), some (.ref kp), none, none] [] (M ++ [.inr (2, [.int p1, .int av, .int p2, .int p3, .int p4, .null, .int bv, .long wv, .ref kp, .ref (M.length + 2), .int 0, .null, .ref (M.length + 3), .ref (M.length + 1)]), .inl (0, 12, .inl fun _ => 0), .inl (1, z_bl q, .inr (.inl fun _ => 0)), .inl (1, z_bl q, .inr (.inl fun _ => 0))]) K) : z_ev d 23 88 [some (.ref M.length), some (.int p1), some (.int p2), some (.int p3), some (.int p4), some (.ref kp), none, none] [.long wv, .ref M.length] (M ++ [.inr (2, [.int p1, .int av, .int p2, .int p3, .int p4, .null, .int bv, .long 0, .ref kp, .null, .int 0, .null, .null, .ref (M.length + 1)]), .inl (0, 12, .inl fun _ => 0)]) K := by
  have hi : ((z_name 23).name == "<init>") = true ∧ "DoorBench$Agenda" = z_cn (z_oc 23) := ⟨zzi23, by rw [zo23]; exact zzn2⟩
  refine z_epf (ci := 2) (k := 7) (fs := [.int p1, .int av, .int p2, .int p3, .int p4, .null, .int bv, .long 0, .ref kp, .null, .int 0, .null, .null, .ref (M.length + 1)]) (z_dc1 zt23 (n := 37) rfl) (by rw [zo23]; exact zzf2_40) z_geto (by decide) hN rfl (Nat.le_of_ble_eq_true rfl) (Or.inr hi) ?_
  rw [z_seto]
  show z_ev d 23 91 [some (.ref M.length), some (.int p1), some (.int p2), some (.int p3), some (.int p4), some (.ref kp), none, none] [] (M ++ [.inr (2, [.int p1, .int av, .int p2, .int p3, .int p4, .null, .int bv, .long wv, .ref kp, .null, .int 0, .null, .null, .ref (M.length + 1)]), .inl (0, 12, .inl fun _ => 0)]) K
  have hbl : 1 ≤ z_bl q ∧ z_bl q ≤ 16 := z_blb q0 q1
  refine z_xP zt23 38 93 [some (.ref M.length), some (.int p1), some (.int p2), some (.int p3), some (.int p4), some (.ref kp), none, none] [.ref M.length, .ref M.length] rfl rfl ?_
  refine z_egf (fs := [.int p1, .int av, .int p2, .int p3, .int p4, .null, .int bv, .long wv, .ref kp, .null, .int 0, .null, .null, .ref (M.length + 1)]) (z_dc1 zt23 (n := 39) rfl) (by rw [zo23]; exact zzf2_35) z_geto (by decide) hN rfl ?_
  refine z_enal (N := M.length + 2) (k := z_bl q) (z_dc1 zt23 (n := 40) rfl) (z_nlo (by omega) (by omega)) (by unfold Int32.toNatClampNeg; omega) (by rw [List.length_append]; rfl) ?_
  rw [List.append_assoc]
  show z_ev d 23 98 [some (.ref M.length), some (.int p1), some (.int p2), some (.int p3), some (.int p4), some (.ref kp), none, none] [.ref (M.length + 2), .ref M.length] (M ++ [.inr (2, [.int p1, .int av, .int p2, .int p3, .int p4, .null, .int bv, .long wv, .ref kp, .null, .int 0, .null, .null, .ref (M.length + 1)]), .inl (0, 12, .inl fun _ => 0), .inl (1, z_bl q, .inr (.inl fun _ => 0))]) K
  refine z_epf (ci := 2) (k := 9) (fs := [.int p1, .int av, .int p2, .int p3, .int p4, .null, .int bv, .long wv, .ref kp, .null, .int 0, .null, .null, .ref (M.length + 1)]) (z_dc1 zt23 (n := 41) rfl) (by rw [zo23]; exact zzf2_44) z_geto (by decide) hN rfl (Nat.le_of_ble_eq_true rfl) (Or.inr hi) ?_
  rw [z_seto]
  show z_ev d 23 101 [some (.ref M.length), some (.int p1), some (.int p2), some (.int p3), some (.int p4), some (.ref kp), none, none] [] (M ++ [.inr (2, [.int p1, .int av, .int p2, .int p3, .int p4, .null, .int bv, .long wv, .ref kp, .ref (M.length + 2), .int 0, .null, .null, .ref (M.length + 1)]), .inl (0, 12, .inl fun _ => 0), .inl (1, z_bl q, .inr (.inl fun _ => 0))]) K
  refine z_xP zt23 42 103 [some (.ref M.length), some (.int p1), some (.int p2), some (.int p3), some (.int p4), some (.ref kp), none, none] [.ref M.length, .ref M.length] rfl rfl ?_
  refine z_egf (fs := [.int p1, .int av, .int p2, .int p3, .int p4, .null, .int bv, .long wv, .ref kp, .ref (M.length + 2), .int 0, .null, .null, .ref (M.length + 1)]) (z_dc1 zt23 (n := 43) rfl) (by rw [zo23]; exact zzf2_35) z_geto (by decide) hN rfl ?_
  refine z_enal (N := M.length + 3) (k := z_bl q) (z_dc1 zt23 (n := 44) rfl) (z_nlo (by omega) (by omega)) (by unfold Int32.toNatClampNeg; omega) (by rw [List.length_append]; rfl) ?_
  rw [List.append_assoc]
  show z_ev d 23 108 [some (.ref M.length), some (.int p1), some (.int p2), some (.int p3), some (.int p4), some (.ref kp), none, none] [.ref (M.length + 3), .ref M.length] (M ++ [.inr (2, [.int p1, .int av, .int p2, .int p3, .int p4, .null, .int bv, .long wv, .ref kp, .ref (M.length + 2), .int 0, .null, .null, .ref (M.length + 1)]), .inl (0, 12, .inl fun _ => 0), .inl (1, z_bl q, .inr (.inl fun _ => 0)), .inl (1, z_bl q, .inr (.inl fun _ => 0))]) K
  refine z_epf (ci := 2) (k := 12) (fs := [.int p1, .int av, .int p2, .int p3, .int p4, .null, .int bv, .long wv, .ref kp, .ref (M.length + 2), .int 0, .null, .null, .ref (M.length + 1)]) (z_dc1 zt23 (n := 45) rfl) (by rw [zo23]; exact zzf2_47) z_geto (by decide) hN rfl (Nat.le_of_ble_eq_true rfl) (Or.inr hi) ?_
  rw [z_seto]
  show z_ev d 23 111 [some (.ref M.length), some (.int p1), some (.int p2), some (.int p3), some (.int p4), some (.ref kp), none, none] [] (M ++ [.inr (2, [.int p1, .int av, .int p2, .int p3, .int p4, .null, .int bv, .long wv, .ref kp, .ref (M.length + 2), .int 0, .null, .ref (M.length + 3), .ref (M.length + 1)]), .inl (0, 12, .inl fun _ => 0), .inl (1, z_bl q, .inr (.inl fun _ => 0)), .inl (1, z_bl q, .inr (.inl fun _ => 0))]) K
  exact hT av bv wv ha hb
theorem zA23b {d q kp : Nat} {p1 p2 p3 p4 : Int32} {M : zH} {K : Option Value → zH → Prop} (hN : 4 ≤ M.length) (hq : p1.toInt = (q : Int)) (q0 : 1 ≤ q) (q1 : q ≤ 10) {av bv : Int32} (ha : av.toInt = (z_po q : Int) - 1) (hb : bv.toInt = (z_bl q : Int)) (hT : ∀ (av bv : Int32) (wv : Int64), av.toInt = (z_po q : Int) - 1 → bv.toInt = (z_bl q : Int) → z_ev d 23 111 [some (.ref M.length), some (.int p1), some (.int p2), some (.int p3), some (.int p4), some (.ref kp), none, none] [] (M ++ [.inr (2, [.int p1, .int av, .int p2, .int p3, .int p4, .null, .int bv, .long wv, .ref kp, .ref (M.length + 2), .int 0, .null, .ref (M.length + 3), .ref (M.length + 1)]), .inl (0, 12, .inl fun _ => 0), .inl (1, z_bl q, .inr (.inl fun _ => 0)), .inl (1, z_bl q, .inr (.inl fun _ => 0))]) K) : z_ev d 23 65 [some (.ref M.length), some (.int p1), some (.int p2), some (.int p3), some (.int p4), some (.ref kp), none, none] [.int bv, .ref M.length] (M ++ [.inr (2, [.int p1, .int av, .int p2, .int p3, .int p4, .null, .int 0, .long 0, .ref kp, .null, .int 0, .null, .null, .ref (M.length + 1)]), .inl (0, 12, .inl fun _ => 0)]) K := by
  have hi : ((z_name 23).name == "<init>") = true ∧ "DoorBench$Agenda" = z_cn (z_oc 23) := ⟨zzi23, by rw [zo23]; exact zzn2⟩
  refine z_epf (ci := 2) (k := 6) (fs := [.int p1, .int av, .int p2, .int p3, .int p4, .null, .int 0, .long 0, .ref kp, .null, .int 0, .null, .null, .ref (M.length + 1)]) (z_dc1 zt23 (n := 27) rfl) (by rw [zo23]; exact zzf2_35) z_geto (by decide) hN rfl (Nat.le_of_ble_eq_true rfl) (Or.inr hi) ?_
  rw [z_seto]
  show z_ev d 23 68 [some (.ref M.length), some (.int p1), some (.int p2), some (.int p3), some (.int p4), some (.ref kp), none, none] [] (M ++ [.inr (2, [.int p1, .int av, .int p2, .int p3, .int p4, .null, .int bv, .long 0, .ref kp, .null, .int 0, .null, .null, .ref (M.length + 1)]), .inl (0, 12, .inl fun _ => 0)]) K
  refine z_xP zt23 28 72 [some (.ref M.length), some (.int p1), some (.int p2), some (.int p3), some (.int p4), some (.ref kp), none, none] [.int 6, .int p1, .ref M.length] rfl rfl ?_
  have q6 : (6 : Int32).toInt = 6 := rfl
  refine z_xJ zt23 29 rfl rfl (fun (h1 : (6 : Int32).toInt ≤ p1.toInt) => ?_) (fun (h1 : p1.toInt < (6 : Int32).toInt) => ?_)
  · refine z_xl2 zt23 36 rfl zo23 zkl2_38 ?_
    exact zA23c hN hq q0 q1 ha hb hT
  · refine z_xP zt23 30 78 [some (.ref M.length), some (.int p1), some (.int p2), some (.int p3), some (.int p4), some (.ref kp), none, none] [.int p1, .int 1, .long 1, .ref M.length] rfl rfl ?_
    refine z_xI zt23 31 rfl rfl (P := fun _ => True) (fun x _ => ?_) trivial
    refine z_xL zt23 32 rfl rfl (P := fun _ => True) (fun y _ => ?_) trivial
    refine z_xP zt23 33 81 [some (.ref M.length), some (.int p1), some (.int p2), some (.int p3), some (.int p4), some (.ref kp), none, none] [.long 1, .long y, .ref M.length] rfl rfl ?_
    refine z_xL zt23 34 rfl rfl (P := fun _ => True) (fun w _ => ?_) trivial
    refine z_xP zt23 35 88 [some (.ref M.length), some (.int p1), some (.int p2), some (.int p3), some (.int p4), some (.ref kp), none, none] [.long w, .ref M.length] rfl rfl ?_
    exact zA23c hN hq q0 q1 ha hb hT
theorem zA23 {d q kp : Nat} {p1 p2 p3 p4 : Int32} {M : zH} {K : Option Value → zH → Prop} (hN : 4 ≤ M.length) (hq : p1.toInt = (q : Int)) (q0 : 1 ≤ q) (q1 : q ≤ 10) (hT : ∀ (av bv : Int32) (wv : Int64), av.toInt = (z_po q : Int) - 1 → bv.toInt = (z_bl q : Int) → z_ev d 23 111 [some (.ref M.length), some (.int p1), some (.int p2), some (.int p3), some (.int p4), some (.ref kp), none, none] [] (M ++ [.inr (2, [.int p1, .int av, .int p2, .int p3, .int p4, .null, .int bv, .long wv, .ref kp, .ref (M.length + 2), .int 0, .null, .ref (M.length + 3), .ref (M.length + 1)]), .inl (0, 12, .inl fun _ => 0), .inl (1, z_bl q, .inr (.inl fun _ => 0)), .inl (1, z_bl q, .inr (.inl fun _ => 0))]) K) : z_ev d 23 0 [some (.ref M.length), some (.int p1), some (.int p2), some (.int p3), some (.int p4), some (.ref kp), none, none] [] (M ++ [.inr (2, [.int 0, .int 0, .int 0, .int 0, .int 0, .null, .int 0, .long 0, .null, .null, .int 0, .null, .null, .null])]) K := by
  have hi : ((z_name 23).name == "<init>") = true ∧ "DoorBench$Agenda" = z_cn (z_oc 23) := ⟨zzi23, by rw [zo23]; exact zzn2⟩
  refine z_xP zt23 0 1 [some (.ref M.length), some (.int p1), some (.int p2), some (.int p3), some (.int p4), some (.ref kp), none, none] [.ref M.length] rfl rfl ?_
  refine z_eoi (z_dc1 zt23 (n := 1) rfl) (by rw [zo23]; exact zzcI2_3) (by decide) ?_
  refine z_xP zt23 2 7 [some (.ref M.length), some (.int p1), some (.int p2), some (.int p3), some (.int p4), some (.ref kp), none, none] [.int 12, .ref M.length] rfl rfl ?_
  refine z_enai (N := M.length + 1) (k := 12) (z_dc1 zt23 (n := 3) rfl) (by decide) rfl (by rw [List.length_append]; rfl) ?_
  rw [List.append_assoc]
  show z_ev d 23 9 [some (.ref M.length), some (.int p1), some (.int p2), some (.int p3), some (.int p4), some (.ref kp), none, none] [.ref (M.length + 1), .ref M.length] (M ++ [.inr (2, [.int 0, .int 0, .int 0, .int 0, .int 0, .null, .int 0, .long 0, .null, .null, .int 0, .null, .null, .null]), .inl (0, 12, .inl fun _ => 0)]) K
  refine z_epf (ci := 2) (k := 13) (fs := [.int 0, .int 0, .int 0, .int 0, .int 0, .null, .int 0, .long 0, .null, .null, .int 0, .null, .null, .null]) (z_dc1 zt23 (n := 4) rfl) (by rw [zo23]; exact zzf2_9) z_geto (by decide) hN rfl (Nat.le_of_ble_eq_true rfl) (Or.inr hi) ?_
  rw [z_seto]
  show z_ev d 23 12 [some (.ref M.length), some (.int p1), some (.int p2), some (.int p3), some (.int p4), some (.ref kp), none, none] [] (M ++ [.inr (2, [.int 0, .int 0, .int 0, .int 0, .int 0, .null, .int 0, .long 0, .null, .null, .int 0, .null, .null, .ref (M.length + 1)]), .inl (0, 12, .inl fun _ => 0)]) K
  refine z_xP zt23 5 14 [some (.ref M.length), some (.int p1), some (.int p2), some (.int p3), some (.int p4), some (.ref kp), none, none] [.int p1, .ref M.length] rfl rfl ?_
  refine z_epf (ci := 2) (k := 0) (fs := [.int 0, .int 0, .int 0, .int 0, .int 0, .null, .int 0, .long 0, .null, .null, .int 0, .null, .null, .ref (M.length + 1)]) (z_dc1 zt23 (n := 6) rfl) (by rw [zo23]; exact zzf2_15) z_geto (by decide) hN rfl (Nat.le_of_ble_eq_true rfl) (Or.inr hi) ?_
  rw [z_seto]
  show z_ev d 23 17 [some (.ref M.length), some (.int p1), some (.int p2), some (.int p3), some (.int p4), some (.ref kp), none, none] [] (M ++ [.inr (2, [.int p1, .int 0, .int 0, .int 0, .int 0, .null, .int 0, .long 0, .null, .null, .int 0, .null, .null, .ref (M.length + 1)]), .inl (0, 12, .inl fun _ => 0)]) K
  refine z_xP zt23 7 19 [some (.ref M.length), some (.int p1), some (.int p2), some (.int p3), some (.int p4), some (.ref kp), none, none] [.int p2, .ref M.length] rfl rfl ?_
  refine z_epf (ci := 2) (k := 2) (fs := [.int p1, .int 0, .int 0, .int 0, .int 0, .null, .int 0, .long 0, .null, .null, .int 0, .null, .null, .ref (M.length + 1)]) (z_dc1 zt23 (n := 8) rfl) (by rw [zo23]; exact zzf2_19) z_geto (by decide) hN rfl (Nat.le_of_ble_eq_true rfl) (Or.inr hi) ?_
  rw [z_seto]
  show z_ev d 23 22 [some (.ref M.length), some (.int p1), some (.int p2), some (.int p3), some (.int p4), some (.ref kp), none, none] [] (M ++ [.inr (2, [.int p1, .int 0, .int p2, .int 0, .int 0, .null, .int 0, .long 0, .null, .null, .int 0, .null, .null, .ref (M.length + 1)]), .inl (0, 12, .inl fun _ => 0)]) K
  refine z_xP zt23 9 24 [some (.ref M.length), some (.int p1), some (.int p2), some (.int p3), some (.int p4), some (.ref kp), none, none] [.int p3, .ref M.length] rfl rfl ?_
  refine z_epf (ci := 2) (k := 3) (fs := [.int p1, .int 0, .int p2, .int 0, .int 0, .null, .int 0, .long 0, .null, .null, .int 0, .null, .null, .ref (M.length + 1)]) (z_dc1 zt23 (n := 10) rfl) (by rw [zo23]; exact zzf2_22) z_geto (by decide) hN rfl (Nat.le_of_ble_eq_true rfl) (Or.inr hi) ?_
  rw [z_seto]
  show z_ev d 23 27 [some (.ref M.length), some (.int p1), some (.int p2), some (.int p3), some (.int p4), some (.ref kp), none, none] [] (M ++ [.inr (2, [.int p1, .int 0, .int p2, .int p3, .int 0, .null, .int 0, .long 0, .null, .null, .int 0, .null, .null, .ref (M.length + 1)]), .inl (0, 12, .inl fun _ => 0)]) K
  refine z_xP zt23 11 30 [some (.ref M.length), some (.int p1), some (.int p2), some (.int p3), some (.int p4), some (.ref kp), none, none] [.int p4, .ref M.length] rfl rfl ?_
  refine z_epf (ci := 2) (k := 4) (fs := [.int p1, .int 0, .int p2, .int p3, .int 0, .null, .int 0, .long 0, .null, .null, .int 0, .null, .null, .ref (M.length + 1)]) (z_dc1 zt23 (n := 12) rfl) (by rw [zo23]; exact zzf2_25) z_geto (by decide) hN rfl (Nat.le_of_ble_eq_true rfl) (Or.inr hi) ?_
  rw [z_seto]
  show z_ev d 23 33 [some (.ref M.length), some (.int p1), some (.int p2), some (.int p3), some (.int p4), some (.ref kp), none, none] [] (M ++ [.inr (2, [.int p1, .int 0, .int p2, .int p3, .int p4, .null, .int 0, .long 0, .null, .null, .int 0, .null, .null, .ref (M.length + 1)]), .inl (0, 12, .inl fun _ => 0)]) K
  refine z_xP zt23 13 36 [some (.ref M.length), some (.int p1), some (.int p2), some (.int p3), some (.int p4), some (.ref kp), none, none] [.ref kp, .ref M.length] rfl rfl ?_
  refine z_epf (ci := 2) (k := 8) (fs := [.int p1, .int 0, .int p2, .int p3, .int p4, .null, .int 0, .long 0, .null, .null, .int 0, .null, .null, .ref (M.length + 1)]) (z_dc1 zt23 (n := 14) rfl) (by rw [zo23]; exact zzf2_28) z_geto (by decide) hN rfl (Nat.le_of_ble_eq_true rfl) (Or.inr hi) ?_
  rw [z_seto]
  show z_ev d 23 39 [some (.ref M.length), some (.int p1), some (.int p2), some (.int p3), some (.int p4), some (.ref kp), none, none] [] (M ++ [.inr (2, [.int p1, .int 0, .int p2, .int p3, .int p4, .null, .int 0, .long 0, .ref kp, .null, .int 0, .null, .null, .ref (M.length + 1)]), .inl (0, 12, .inl fun _ => 0)]) K
  refine z_xP zt23 15 42 [some (.ref M.length), some (.int p1), some (.int p2), some (.int p3), some (.int p4), some (.ref kp), none, none] [.int p1, .int 1, .ref M.length] rfl rfl ?_
  have hpo : z_po q ≤ 1024 ∧ 1 ≤ z_po q := z_pob q1
  have q1i : (1 : Int32).toInt = 1 := rfl
  refine z_xI zt23 16 rfl rfl (fun (x : Int32) (hx : x.toInt = 1 * ((z_po q : Nat) : Int)) => ?_) (z_pShl q rfl hq (by omega) rfl (by decide) rfl (by omega))
  refine z_xP zt23 17 44 [some (.ref M.length), some (.int p1), some (.int p2), some (.int p3), some (.int p4), some (.ref kp), none, none] [.int 1, .int x, .ref M.length] rfl rfl ?_
  refine z_xI zt23 18 rfl rfl (fun (av : Int32) (ha : av.toInt = x.toInt - 1) => ?_) (z_pSub rfl rfl (by omega) (by omega))
  refine z_epf (ci := 2) (k := 1) (fs := [.int p1, .int 0, .int p2, .int p3, .int p4, .null, .int 0, .long 0, .ref kp, .null, .int 0, .null, .null, .ref (M.length + 1)]) (z_dc1 zt23 (n := 19) rfl) (by rw [zo23]; exact zzf2_32) z_geto (by decide) hN rfl (Nat.le_of_ble_eq_true rfl) (Or.inr hi) ?_
  rw [z_seto]
  show z_ev d 23 48 [some (.ref M.length), some (.int p1), some (.int p2), some (.int p3), some (.int p4), some (.ref kp), none, none] [] (M ++ [.inr (2, [.int p1, .int av, .int p2, .int p3, .int p4, .null, .int 0, .long 0, .ref kp, .null, .int 0, .null, .null, .ref (M.length + 1)]), .inl (0, 12, .inl fun _ => 0)]) K
  have ha2 : av.toInt = (z_po q : Int) - 1 := by omega
  refine z_xP zt23 20 52 [some (.ref M.length), some (.int p1), some (.int p2), some (.int p3), some (.int p4), some (.ref kp), none, none] [.int 6, .int p1, .ref M.length] rfl rfl ?_
  have q6 : (6 : Int32).toInt = 6 := rfl
  refine z_xJ zt23 21 rfl rfl (fun (h1 : p1.toInt ≤ (6 : Int32).toInt) => ?_) (fun (h1 : (6 : Int32).toInt < p1.toInt) => ?_)
  · refine z_xP zt23 26 65 [some (.ref M.length), some (.int p1), some (.int p2), some (.int p3), some (.int p4), some (.ref kp), none, none] [.int 1, .ref M.length] rfl rfl ?_
    exact zA23b hN hq q0 q1 ha2 (by rw [q1i, z_blle (by omega)]; rfl) hT
  · refine z_xP zt23 22 59 [some (.ref M.length), some (.int p1), some (.int p2), some (.int p3), some (.int p4), some (.ref kp), none, none] [.int 6, .int p1, .int 1, .ref M.length] rfl rfl ?_
    refine z_xI zt23 23 rfl rfl (fun (y : Int32) (hy : y.toInt = ((q - 6 : Nat) : Int)) => ?_) (by rw [z_pSub (x := p1) (y := 6) rfl rfl (by omega) (by omega)]; omega)
    refine z_xI zt23 24 rfl rfl (fun (b : Int32) (hb : b.toInt = 1 * ((2 ^ (q - 6) : Nat) : Int)) => ?_) (z_pShl (q - 6) rfl hy (by omega) rfl (by decide) rfl (by have := z_pob2 q1; omega))
    refine z_xP zt23 25 65 [some (.ref M.length), some (.int p1), some (.int p2), some (.int p3), some (.int p4), some (.ref kp), none, none] [.int b, .ref M.length] rfl rfl ?_
    exact zA23b hN hq q0 q1 ha2 (by rw [hb, z_blgt (by omega)]; omega) hT
