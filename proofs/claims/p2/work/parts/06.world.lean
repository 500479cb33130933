/-! the one world: its cells by their numbers (class 0 .. 70, reference 71 .. 87, the law's out 88) -/
def wx_tab (ad : Nat → Nat) (cI cZ cJ cG : ClassId) (f : Nat → Int32) : List va_E := [.inr (0, [.ref (ad 1), .ref (ad 30), .ref (ad 49), .ref (ad 68), .ref (ad 70), .int (f 5), .int (f 6)]),
  .inr (1, [.ref (ad 2), .ref (ad 3), .ref (ad 4), .ref (ad 5), .ref (ad 6), .ref (ad 7), .ref (ad 8), .ref (ad 18), .ref (ad 22), .ref (ad 26), .int (f 10), .int (f 11), .int (f 12), .int (f 13), .int (f 14)]),
  .inl (cI, 9, .inl f),
  .inl (cI, 9, .inl f),
  .inl (cI, 9, .inl f),
  .inl (cI, 9, .inl f),
  .inl (cI, 9, .inl f),
  .inl (cI, 9, .inl f),
  .inl (cG, 9, .inr (.inr (.inr (.inr (fun i => if i < 9 then some (ad (9 + i)) else none))))),
  .inl (cI, 9, .inl f),
  .inl (cI, 9, .inl f),
  .inl (cI, 9, .inl f),
  .inl (cI, 9, .inl f),
  .inl (cI, 9, .inl f),
  .inl (cI, 9, .inl f),
  .inl (cI, 9, .inl f),
  .inl (cI, 9, .inl f),
  .inl (cI, 9, .inl f),
  .inr (2, [.ref (ad 19), .ref (ad 20), .ref (ad 21), .int (f 3)]),
  .inl (cI, 8, .inl f),
  .inl (cI, 8, .inl f),
  .inl (cI, 8, .inl f),
  .inr (2, [.ref (ad 23), .ref (ad 24), .ref (ad 25), .int (f 3)]),
  .inl (cI, 8, .inl f),
  .inl (cI, 8, .inl f),
  .inl (cI, 8, .inl f),
  .inr (3, [.ref (ad 27), .ref (ad 28), .ref (ad 29), .int (f 3)]),
  .inl (cI, 4, .inl f),
  .inl (cI, 4, .inl f),
  .inl (cI, 4, .inl f),
  .inr (4, [.ref (ad 1), .ref (ad 31), .ref (ad 32), .ref (ad 33), .ref (ad 34), .ref (ad 35), .ref (ad 36), .ref (ad 37), .ref (ad 38), .int (f 9)]),
  .inl (cI, 9, .inl f),
  .inl (cZ, 9, .inl f),
  .inl (cZ, 9, .inl f),
  .inl (cI, 10, .inl f),
  .inl (cI, 10, .inl f),
  .inl (cI, 10, .inl f),
  .inl (cI, 10, .inl f),
  .inl (cG, 10, .inr (.inr (.inr (.inr (fun i => if i < 10 then some (ad (39 + i)) else none))))),
  .inl (cI, 4, .inl f),
  .inl (cI, 4, .inl f),
  .inl (cI, 4, .inl f),
  .inl (cI, 4, .inl f),
  .inl (cI, 4, .inl f),
  .inl (cI, 4, .inl f),
  .inl (cI, 4, .inl f),
  .inl (cI, 4, .inl f),
  .inl (cI, 4, .inl f),
  .inl (cI, 4, .inl f),
  .inr (4, [.ref (ad 1), .ref (ad 50), .ref (ad 51), .ref (ad 52), .ref (ad 53), .ref (ad 54), .ref (ad 55), .ref (ad 56), .ref (ad 57), .int (f 9)]),
  .inl (cI, 9, .inl f),
  .inl (cZ, 9, .inl f),
  .inl (cZ, 9, .inl f),
  .inl (cI, 10, .inl f),
  .inl (cI, 10, .inl f),
  .inl (cI, 10, .inl f),
  .inl (cI, 10, .inl f),
  .inl (cG, 10, .inr (.inr (.inr (.inr (fun i => if i < 10 then some (ad (58 + i)) else none))))),
  .inl (cI, 4, .inl f),
  .inl (cI, 4, .inl f),
  .inl (cI, 4, .inl f),
  .inl (cI, 4, .inl f),
  .inl (cI, 4, .inl f),
  .inl (cI, 4, .inl f),
  .inl (cI, 4, .inl f),
  .inl (cI, 4, .inl f),
  .inl (cI, 4, .inl f),
  .inl (cI, 4, .inl f),
  .inr (5, [.ref (ad 1), .ref (ad 30), .ref (ad 69), .int (f 3), .int (f 4), .int (f 5), .int (f 6)]),
  .inl (cI, 9, .inl f),
  .inl (cI, 9, .inl f),
  .inr (6, [.int (f 0), .int (f 1), .ref (ad 72), .ref (ad 73), .ref (ad 74), .ref (ad 75), .ref (ad 76), .ref (ad 77), .ref (ad 78), .ref (ad 79), .ref (ad 80), .ref (ad 81), .int (f 12), .ref (ad 82), .ref (ad 83), .ref (ad 84), .int (f 16), .int (f 17), .int (f 18), .int (f 19), .int (f 20), .int (f 21), .int (f 22), .ref (ad 85), .ref (ad 86), .int (f 25), .int (f 26), .int (f 27), .ref (ad 87)]),
  .inl (cI, 9, .inl f),
  .inl (cI, 9, .inl f),
  .inl (cI, 9, .inl f),
  .inl (cI, 9, .inl f),
  .inl (cI, 9, .inl f),
  .inl (cI, 9, .inl f),
  .inl (cI, 2, .inl f),
  .inl (cI, 16, .inl f),
  .inl (cI, 16, .inl f),
  .inl (cI, 16, .inl f),
  .inl (cI, 4, .inl f),
  .inl (cI, 4, .inl f),
  .inl (cI, 4, .inl f),
  .inl (cI, 9, .inl f),
  .inl (cI, 9, .inl f),
  .inl (cZ, 9, .inl f),
  .inl (cJ, 1, .inr (.inl (fun i => (f i).toInt64)))]
def wx_mk (ad : Nat → Nat) (cI cZ cJ cG : ClassId) (k : Nat) (f : Nat → Int32) : va_E := (wx_tab ad cI cZ cJ cG f).getD k (.inl (cI, 0, .inl f))
section WXM
variable {ad : Nat → Nat} {cI cZ cJ cG : ClassId} {b k : Nat} {i : Int32}
theorem wx_L0 (h : b = 30 ∨ b = 49) (f : Nat → Int32) : wx_mk ad cI cZ cJ cG b f = .inr (4, [.ref (ad 1), .ref (ad (b + 1)), .ref (ad (b + 2)), .ref (ad (b + 3)), .ref (ad (b + 4)), .ref (ad (b + 5)), .ref (ad (b + 6)), .ref (ad (b + 7)), .ref (ad (b + 8)), .int (f 9)]) := by
  rcases h with rfl | rfl <;> rfl
theorem wx_Ll0 (h : b = 30 ∨ b = 49) : b < 89 := by omega
theorem wx_L1 (h : b = 30 ∨ b = 49) (f : Nat → Int32) : wx_mk ad cI cZ cJ cG (b + 1) f = .inl (cI, 9, .inl f) := by
  rcases h with rfl | rfl <;> rfl
theorem wx_Ll1 (h : b = 30 ∨ b = 49) : b + 1 < 89 := by omega
theorem wx_L2 (h : b = 30 ∨ b = 49) (f : Nat → Int32) : wx_mk ad cI cZ cJ cG (b + 2) f = .inl (cZ, 9, .inl f) := by
  rcases h with rfl | rfl <;> rfl
theorem wx_Ll2 (h : b = 30 ∨ b = 49) : b + 2 < 89 := by omega
theorem wx_L3 (h : b = 30 ∨ b = 49) (f : Nat → Int32) : wx_mk ad cI cZ cJ cG (b + 3) f = .inl (cZ, 9, .inl f) := by
  rcases h with rfl | rfl <;> rfl
theorem wx_Ll3 (h : b = 30 ∨ b = 49) : b + 3 < 89 := by omega
theorem wx_L4 (h : b = 30 ∨ b = 49) (f : Nat → Int32) : wx_mk ad cI cZ cJ cG (b + 4) f = .inl (cI, 10, .inl f) := by
  rcases h with rfl | rfl <;> rfl
theorem wx_Ll4 (h : b = 30 ∨ b = 49) : b + 4 < 89 := by omega
theorem wx_L5 (h : b = 30 ∨ b = 49) (f : Nat → Int32) : wx_mk ad cI cZ cJ cG (b + 5) f = .inl (cI, 10, .inl f) := by
  rcases h with rfl | rfl <;> rfl
theorem wx_Ll5 (h : b = 30 ∨ b = 49) : b + 5 < 89 := by omega
theorem wx_L6 (h : b = 30 ∨ b = 49) (f : Nat → Int32) : wx_mk ad cI cZ cJ cG (b + 6) f = .inl (cI, 10, .inl f) := by
  rcases h with rfl | rfl <;> rfl
theorem wx_Ll6 (h : b = 30 ∨ b = 49) : b + 6 < 89 := by omega
theorem wx_L7 (h : b = 30 ∨ b = 49) (f : Nat → Int32) : wx_mk ad cI cZ cJ cG (b + 7) f = .inl (cI, 10, .inl f) := by
  rcases h with rfl | rfl <;> rfl
theorem wx_Ll7 (h : b = 30 ∨ b = 49) : b + 7 < 89 := by omega
theorem wx_L8 (h : b = 30 ∨ b = 49) (f : Nat → Int32) : wx_mk ad cI cZ cJ cG (b + 8) f = .inl (cG, 10, .inr (.inr (.inr (.inr (fun i => if i < 10 then some (ad ((b + 9) + i)) else none))))) := by
  rcases h with rfl | rfl <;> rfl
theorem wx_Ll8 (h : b = 30 ∨ b = 49) : b + 8 < 89 := by omega
theorem wx_J0 (h : b = 18 ∨ b = 22) (f : Nat → Int32) : wx_mk ad cI cZ cJ cG b f = .inr (2, [.ref (ad (b + 1)), .ref (ad (b + 2)), .ref (ad (b + 3)), .int (f 3)]) := by
  rcases h with rfl | rfl <;> rfl
theorem wx_Jl0 (h : b = 18 ∨ b = 22) : b < 89 := by omega
theorem wx_J1 (h : b = 18 ∨ b = 22) (f : Nat → Int32) : wx_mk ad cI cZ cJ cG (b + 1) f = .inl (cI, 8, .inl f) := by
  rcases h with rfl | rfl <;> rfl
theorem wx_Jl1 (h : b = 18 ∨ b = 22) : b + 1 < 89 := by omega
theorem wx_J2 (h : b = 18 ∨ b = 22) (f : Nat → Int32) : wx_mk ad cI cZ cJ cG (b + 2) f = .inl (cI, 8, .inl f) := by
  rcases h with rfl | rfl <;> rfl
theorem wx_Jl2 (h : b = 18 ∨ b = 22) : b + 2 < 89 := by omega
theorem wx_J3 (h : b = 18 ∨ b = 22) (f : Nat → Int32) : wx_mk ad cI cZ cJ cG (b + 3) f = .inl (cI, 8, .inl f) := by
  rcases h with rfl | rfl <;> rfl
theorem wx_Jl3 (h : b = 18 ∨ b = 22) : b + 3 < 89 := by omega
theorem wx_A (h : k = 69 ∨ k = 70) (f : Nat → Int32) : wx_mk ad cI cZ cJ cG k f = .inl (cI, 9, .inl f) := by
  rcases h with rfl | rfl <;> rfl
theorem wx_Al (h : k = 69 ∨ k = 70) : k < 89 := by omega
theorem wx_M (h : k = 85 ∨ k = 86) (f : Nat → Int32) : wx_mk ad cI cZ cJ cG k f = .inl (cI, 9, .inl f) := by
  rcases h with rfl | rfl <;> rfl
theorem wx_Ml (h : k = 85 ∨ k = 86) : k < 89 := by omega
theorem wx_g8 (h : wc_in i 9 = true) (f : Nat → Int32) : wx_mk ad cI cZ cJ cG (9 + i.toNatClampNeg) f = .inl (cI, 9, .inl f) := by
  have h1 := wc_in_lt h
  generalize i.toNatClampNeg = j at h1 ⊢
  rcases (show j = 0 ∨ j = 1 ∨ j = 2 ∨ j = 3 ∨ j = 4 ∨ j = 5 ∨ j = 6 ∨ j = 7 ∨ j = 8 by omega) with rfl | rfl | rfl | rfl | rfl | rfl | rfl | rfl | rfl <;> rfl
theorem wx_g8l (h : wc_in i 9 = true) : 9 + i.toNatClampNeg < 89 := by have h1 := wc_in_lt h; omega
theorem wx_gL (hb : b = 30 ∨ b = 49) (h : wc_in i 10 = true) (f : Nat → Int32) : wx_mk ad cI cZ cJ cG (b + 9 + i.toNatClampNeg) f = .inl (cI, 4, .inl f) := by
  have h1 := wc_in_lt h
  generalize i.toNatClampNeg = j at h1 ⊢
  rcases hb with rfl | rfl <;> rcases (show j = 0 ∨ j = 1 ∨ j = 2 ∨ j = 3 ∨ j = 4 ∨ j = 5 ∨ j = 6 ∨ j = 7 ∨ j = 8 ∨ j = 9 by omega) with rfl | rfl | rfl | rfl | rfl | rfl | rfl | rfl | rfl | rfl <;> rfl
theorem wx_gLl (hb : b = 30 ∨ b = 49) (h : wc_in i 10 = true) : b + 9 + i.toNatClampNeg < 89 := by have h1 := wc_in_lt h; omega
end WXM
section WXO
variable {p : Program} {l : Launch} {e : Env} {R : Room} {s : State} {m : MethodId} {args : Array Value} {below : List Frame} {meth : Method} {c : Code} {H : Heap} {locs : List Loc} {cells slots : Nat} {Q : State → Prop}
variable {cc : ByteArray} {pc : Nat} {ls : Array Slot} {rest : List Value} {D : va_G} {cl : List vw_C} {A : Nat → Prop} {H0 : Heap} {ad : Nat → Nat} {σ : wc_S} {cI cZ cJ cG : ClassId}
theorem wx_lald (hexec : p.tables.exec = Jvm.exec) (hb : c.code = cc) (hK : va_K D cl (wx_ty cI cZ cJ cG) s) (hP : va_P D cl (wc_W 89 ad (wx_mk ad cI cZ cJ cG) σ) H) (k : Nat) {i : Int32} (hin : vp_in i 1) (hdg : decode cc pc = .ok (.laload, 1)) (hk : k = 88)
    (kk : W p l e R s m args below meth c H locs cells slots Q (F0 m (pc + 1) ls (.long (σ k i.toNatClampNeg).toInt64 :: rest))) : W p l e R s m args below meth c H locs cells slots Q (F0 m pc ls (.int i :: .ref (ad k) :: rest)) := by
  subst hk
  exact va_lald (f := fun j => (σ 88 j).toInt64) hexec hb hK hP 88 2 (wc_at 88 (by decide) rfl) rfl hin hdg kk
theorem wx_last (hexec : p.tables.exec = Jvm.exec) (hb : c.code = cc) (hK : va_K D cl (wx_ty cI cZ cJ cG) s) (hP : va_P D cl (wc_W 89 ad (wx_mk ad cI cZ cJ cG) σ) H) (hD : va_D A (wc_W 89 ad (wx_mk ad cI cZ cJ cG) σ)) (hS : va_S A H0 H locs) {i x : Int32} {y : Int64} (hin : wc_in i 1 = true) (hy : x.toInt64 = y) (hdg : decode cc pc = .ok (.lastore, 1))
    (kk : ∀ (σ1 : wc_S) (H1 : Heap) (locs1 : List Loc), σ1 = wc_u σ 88 i.toNatClampNeg x → va_P D cl (wc_W 89 ad (wx_mk ad cI cZ cJ cG) σ1) H1 → va_D A (wc_W 89 ad (wx_mk ad cI cZ cJ cG) σ1) → va_S A H0 H1 locs1 → W p l e R s m args below meth c H1 locs1 cells slots Q (F0 m (pc + 1) ls rest)) : W p l e R s m args below meth c H locs cells slots Q (F0 m pc ls (.long y :: .int i :: .ref (ad 88) :: rest)) := by
  subst hy
  refine va_last (f := fun j => (σ 88 j).toInt64) hexec hb hK hP hD hS 88 2 (wc_at 88 (by decide) rfl) rfl (wc_in_e hin) hdg (fun H1 locs1 hP1 hD1 hS1 => ?_)
  have e1 : wx_mk ad cI cZ cJ cG 88 (upd (σ 88) i.toNatClampNeg x) = .inl (cJ, 1, .inr (.inl (vp_updL (fun j => (σ 88 j).toInt64) i.toNatClampNeg x.toInt64))) := by
    have e2 : (fun j => (upd (σ 88) i.toNatClampNeg x j).toInt64) = vp_updL (fun j => (σ 88 j).toInt64) i.toNatClampNeg x.toInt64 := by
      funext j
      by_cases h : j = i.toNatClampNeg <;> simp [upd, vp_updL, h]
    show Sum.inl (cJ, 1, Sum.inr (Sum.inl (fun j => (upd (σ 88) i.toNatClampNeg x j).toInt64))) = _
    rw [e2]
  rw [wc_set e1] at hP1 hD1
  exact kk _ H1 locs1 rfl hP1 hD1 hS1
end WXO
