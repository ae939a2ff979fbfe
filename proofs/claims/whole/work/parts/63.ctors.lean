/-! the constructors' tables -/
theorem arrW0 : Cond.arrayClass .int ∈ Wd := mW 130 (by decide +kernel) (by decide +kernel)
theorem arrW1 : Cond.arrayClass .byte ∈ Wd := mW 759 (by decide +kernel) (by decide +kernel)
theorem arrW2 : Cond.arrayClass .boolean ∈ Wd := mW 760 (by decide +kernel) (by decide +kernel)
def mX0_init : MI := (yX0_init, cX0_init, 3, none, 0, 1, false, 2, [(0, .aload_n 0, 1), (1, .invokespecial 3, 3), (4, .aload_n 0, 1), (5, .bipush 6, 2), (7, .newarray .int, 2), (9, .putfield 9, 3), (12, .aload_n 0, 1), (13, .aload_n 1, 1), (14, .putfield 15, 3), (17, .aload_n 0, 1), (18, .aload_n 2, 1), (19, .putfield 19, 3), (22, .return_, 1)])
set_option maxRecDepth 20000 in
theorem oX0_init : COk mX0_init := ⟨(by decide +kernel), rfl, mW 211 (by decide +kernel) (by decide +kernel), mW 84 (by decide +kernel) (by decide +kernel), ⟨rfl, mW 210 (by decide +kernel) (by decide +kernel)⟩, ⟨(by decide +kernel), (by decide +kernel), (by decide +kernel)⟩, ⟨by decide, rfl⟩, (by decide +kernel)⟩
theorem wO_0 : ∀ w ∈ [Cond.methodLink (Rn (miO mX0_init)) 3 Lib.objectInit, Cond.instanceMethod Lib.objectInit, Cond.code Lib.objectInit ⟨#[0xb1]⟩ 1 none], w ∈ Wd := mWs _ [212, 96, 97] (by decide +kernel) (by decide +kernel)
def mX1_init : MI := (yX1_init, cX1_init, 3, none, 1, 1, false, 2, [(0, .aload_n 0, 1), (1, .invokespecial 5, 3), (4, .aload_n 0, 1), (5, .aload_n 1, 1), (6, .putfield 11, 3), (9, .aload_n 0, 1), (10, .aload_n 2, 1), (11, .putfield 15, 3), (14, .return_, 1)])
set_option maxRecDepth 20000 in
theorem oX1_init : COk mX1_init := ⟨(by decide +kernel), rfl, mW 260 (by decide +kernel) (by decide +kernel), mW 86 (by decide +kernel) (by decide +kernel), ⟨rfl, mW 259 (by decide +kernel) (by decide +kernel)⟩, ⟨(by decide +kernel), (by decide +kernel), (by decide +kernel)⟩, ⟨by decide, rfl⟩, (by decide +kernel)⟩
theorem wO_1 : ∀ w ∈ [Cond.methodLink (Rn (miO mX1_init)) 5 Lib.objectInit, Cond.instanceMethod Lib.objectInit, Cond.code Lib.objectInit ⟨#[0xb1]⟩ 1 none], w ∈ Wd := mWs _ [261, 96, 97] (by decide +kernel) (by decide +kernel)
def mX2_init : MI := (yX2_init, cX2_init, 1, none, 2, 1, false, 0, [(0, .aload_n 0, 1), (1, .invokespecial 5, 3), (4, .aload_n 0, 1), (5, .bipush 18, 2), (7, .newarray .int, 2), (9, .putfield 11, 3), (12, .aload_n 0, 1), (13, .sipush 180, 3), (16, .newarray .int, 2), (18, .putfield 15, 3), (21, .return_, 1)])
set_option maxRecDepth 20000 in
theorem oX2_init : COk mX2_init := ⟨(by decide +kernel), rfl, mW 190 (by decide +kernel) (by decide +kernel), mW 83 (by decide +kernel) (by decide +kernel), ⟨rfl, mW 189 (by decide +kernel) (by decide +kernel)⟩, ⟨(by decide +kernel), (by decide +kernel), (by decide +kernel)⟩, ⟨by decide, rfl⟩, (by decide +kernel)⟩
theorem wO_2 : ∀ w ∈ [Cond.methodLink (Rn (miO mX2_init)) 5 Lib.objectInit, Cond.instanceMethod Lib.objectInit, Cond.code Lib.objectInit ⟨#[0xb1]⟩ 1 none], w ∈ Wd := mWs _ [191, 96, 97] (by decide +kernel) (by decide +kernel)
def mX3_init : MI := (yX3_init, cX3_init, 4, none, 3, 1, false, 3, [(0, .aload_n 0, 1), (1, .invokespecial 3, 3), (4, .aload_n 0, 1), (5, .sipush 416, 3), (8, .newarray .int, 2), (10, .putfield 9, 3), (13, .aload_n 0, 1), (14, .sipush 416, 3), (17, .newarray .int, 2), (19, .putfield 15, 3), (22, .aload_n 0, 1), (23, .bipush 32, 2), (25, .newarray .int, 2), (27, .putfield 18, 3), (30, .aload_n 0, 1), (31, .aload_n 1, 1), (32, .putfield 21, 3), (35, .aload_n 0, 1), (36, .aload_n 2, 1), (37, .putfield 25, 3), (40, .aload_n 0, 1), (41, .aload_n 3, 1), (42, .putfield 29, 3), (45, .return_, 1)])
set_option maxRecDepth 20000 in
theorem oX3_init : COk mX3_init := ⟨(by decide +kernel), rfl, mW 235 (by decide +kernel) (by decide +kernel), mW 85 (by decide +kernel) (by decide +kernel), ⟨rfl, mW 234 (by decide +kernel) (by decide +kernel)⟩, ⟨(by decide +kernel), (by decide +kernel), (by decide +kernel)⟩, ⟨by decide, rfl⟩, (by decide +kernel)⟩
theorem wO_3 : ∀ w ∈ [Cond.methodLink (Rn (miO mX3_init)) 3 Lib.objectInit, Cond.instanceMethod Lib.objectInit, Cond.code Lib.objectInit ⟨#[0xb1]⟩ 1 none], w ∈ Wd := mWs _ [236, 96, 97] (by decide +kernel) (by decide +kernel)
def mX4_init : MI := (yX4_init, cX4_init, 1, none, 4, 1, false, 0, [(0, .aload_n 0, 1), (1, .invokespecial 3, 3), (4, .aload_n 0, 1), (5, .bipush 12, 2), (7, .newarray .int, 2), (9, .putfield 9, 3), (12, .aload_n 0, 1), (13, .bipush 12, 2), (15, .newarray .int, 2), (17, .putfield 15, 3), (20, .aload_n 0, 1), (21, .iconst 5, 1), (22, .newarray .int, 2), (24, .putfield 18, 3), (27, .aload_n 0, 1), (28, .iconst 5, 1), (29, .newarray .int, 2), (31, .putfield 21, 3), (34, .aload_n 0, 1), (35, .iconst 5, 1), (36, .newarray .int, 2), (38, .putfield 24, 3), (41, .aload_n 0, 1), (42, .iconst 5, 1), (43, .newarray .int, 2), (45, .putfield 27, 3), (48, .aload_n 0, 1), (49, .iconst 2, 1), (50, .putfield 30, 3), (53, .return_, 1)])
set_option maxRecDepth 20000 in
theorem oX4_init : COk mX4_init := ⟨(by decide +kernel), rfl, mW 135 (by decide +kernel) (by decide +kernel), mW 82 (by decide +kernel) (by decide +kernel), ⟨rfl, mW 134 (by decide +kernel) (by decide +kernel)⟩, ⟨(by decide +kernel), (by decide +kernel), (by decide +kernel)⟩, ⟨by decide, rfl⟩, (by decide +kernel)⟩
theorem wO_4 : ∀ w ∈ [Cond.methodLink (Rn (miO mX4_init)) 3 Lib.objectInit, Cond.instanceMethod Lib.objectInit, Cond.code Lib.objectInit ⟨#[0xb1]⟩ 1 none], w ∈ Wd := mWs _ [136, 96, 97] (by decide +kernel) (by decide +kernel)
def mX5_init : MI := (yX5_init, cX5_init, 1, none, 5, 1, false, 0, [(0, .aload_n 0, 1), (1, .invokespecial 1, 3), (4, .aload_n 0, 1), (5, .sipush 180, 3), (8, .newarray .int, 2), (10, .putfield 9, 3), (13, .aload_n 0, 1), (14, .getstatic 13, 3), (17, .arraylength, 1), (18, .newarray .int, 2), (20, .putfield 16, 3), (23, .return_, 1)])
set_option maxRecDepth 20000 in
theorem oX5_init : COk mX5_init := ⟨(by decide +kernel), rfl, mW 102 (by decide +kernel) (by decide +kernel), mW 81 (by decide +kernel) (by decide +kernel), ⟨rfl, mW 101 (by decide +kernel) (by decide +kernel)⟩, ⟨(by decide +kernel), (by decide +kernel), (by decide +kernel)⟩, ⟨by decide, rfl⟩, (by decide +kernel)⟩
theorem wO_5 : ∀ w ∈ [Cond.methodLink (Rn (miO mX5_init)) 1 Lib.objectInit, Cond.instanceMethod Lib.objectInit, Cond.code Lib.objectInit ⟨#[0xb1]⟩ 1 none], w ∈ Wd := mWs _ [103, 96, 97] (by decide +kernel) (by decide +kernel)
def mX6_init : MI := (yX6_init, cX6_init, 1, none, 6, 2, false, 0, [(0, .aload_n 0, 1), (1, .invokespecial 3, 3), (4, .aload_n 0, 1), (5, .new 9, 3), (8, .dup, 1), (9, .invokespecial 11, 3), (12, .putfield 12, 3), (15, .aload_n 0, 1), (16, .new 16, 3), (19, .dup, 1), (20, .invokespecial 18, 3), (23, .putfield 19, 3), (26, .aload_n 0, 1), (27, .new 16, 3), (30, .dup, 1), (31, .invokespecial 18, 3), (34, .putfield 23, 3), (37, .aload_n 0, 1), (38, .new 26, 3), (41, .dup, 1), (42, .invokespecial 28, 3), (45, .putfield 29, 3), (48, .aload_n 0, 1), (49, .new 26, 3), (52, .dup, 1), (53, .invokespecial 28, 3), (56, .putfield 33, 3), (59, .aload_n 0, 1), (60, .new 26, 3), (63, .dup, 1), (64, .invokespecial 28, 3), (67, .putfield 36, 3), (70, .aload_n 0, 1), (71, .new 39, 3), (74, .dup, 1), (75, .aload_n 0, 1), (76, .getfield 19, 3), (79, .aload_n 0, 1), (80, .getfield 29, 3), (83, .invokespecial 41, 3), (86, .putfield 44, 3), (89, .aload_n 0, 1), (90, .new 48, 3), (93, .dup, 1), (94, .aload_n 0, 1), (95, .getfield 19, 3), (98, .aload_n 0, 1), (99, .getfield 29, 3), (102, .aload_n 0, 1), (103, .getfield 44, 3), (106, .invokespecial 50, 3), (109, .putfield 53, 3), (112, .aload_n 0, 1), (113, .new 57, 3), (116, .dup, 1), (117, .aload_n 0, 1), (118, .getfield 19, 3), (121, .aload_n 0, 1), (122, .getfield 29, 3), (125, .invokespecial 59, 3), (128, .putfield 60, 3), (131, .return_, 1)])
set_option maxRecDepth 20000 in
theorem oX6_init : COk mX6_init := ⟨(by decide +kernel), rfl, mW 94 (by decide +kernel) (by decide +kernel), mW 80 (by decide +kernel) (by decide +kernel), ⟨rfl, mW 93 (by decide +kernel) (by decide +kernel)⟩, ⟨(by decide +kernel), (by decide +kernel), (by decide +kernel)⟩, ⟨by decide, rfl⟩, (by decide +kernel)⟩
theorem wO_6 : ∀ w ∈ [Cond.methodLink (Rn (miO mX6_init)) 3 Lib.objectInit, Cond.instanceMethod Lib.objectInit, Cond.code Lib.objectInit ⟨#[0xb1]⟩ 1 none], w ∈ Wd := mWs _ [95, 96, 97] (by decide +kernel) (by decide +kernel)
def mX7_init : MI := (yX7_init, cX7_init, 1, none, 7, 1, false, 0, [(0, .aload_n 0, 1), (1, .invokespecial 1, 3), (4, .aload_n 0, 1), (5, .sipush 180, 3), (8, .newarray .byte, 2), (10, .putfield 7, 3), (13, .aload_n 0, 1), (14, .iconst 2, 1), (15, .newarray .int, 2), (17, .putfield 13, 3), (20, .aload_n 0, 1), (21, .bipush 24, 2), (23, .newarray .int, 2), (25, .putfield 17, 3), (28, .aload_n 0, 1), (29, .bipush 24, 2), (31, .newarray .int, 2), (33, .putfield 20, 3), (36, .aload_n 0, 1), (37, .iconst 2, 1), (38, .newarray .int, 2), (40, .putfield 23, 3), (43, .aload_n 0, 1), (44, .iconst 5, 1), (45, .newarray .int, 2), (47, .putfield 26, 3), (50, .aload_n 0, 1), (51, .iconst 5, 1), (52, .newarray .int, 2), (54, .putfield 29, 3), (57, .aload_n 0, 1), (58, .bipush 10, 2), (60, .newarray .int, 2), (62, .putfield 32, 3), (65, .aload_n 0, 1), (66, .bipush 10, 2), (68, .newarray .int, 2), (70, .putfield 35, 3), (73, .aload_n 0, 1), (74, .iconst 2, 1), (75, .newarray .int, 2), (77, .putfield 38, 3), (80, .aload_n 0, 1), (81, .sipush 597, 3), (84, .newarray .int, 2), (86, .putfield 41, 3), (89, .aload_n 0, 1), (90, .iconst 2, 1), (91, .newarray .boolean, 2), (93, .putfield 44, 3), (96, .aload_n 0, 1), (97, .sipush 448, 3), (100, .newarray .int, 2), (102, .putfield 48, 3), (105, .aload_n 0, 1), (106, .sipush 448, 3), (109, .newarray .int, 2), (111, .putfield 51, 3), (114, .aload_n 0, 1), (115, .invokevirtual 54, 3), (118, .aload_n 0, 1), (119, .invokevirtual 57, 3), (122, .return_, 1)])
set_option maxRecDepth 20000 in
theorem oX7_init : COk mX7_init := ⟨(by decide +kernel), rfl, mW 682 (by decide +kernel) (by decide +kernel), mW 87 (by decide +kernel) (by decide +kernel), ⟨rfl, mW 681 (by decide +kernel) (by decide +kernel)⟩, ⟨(by decide +kernel), (by decide +kernel), (by decide +kernel)⟩, ⟨by decide, rfl⟩, (by decide +kernel)⟩
theorem wO_7 : ∀ w ∈ [Cond.methodLink (Rn (miO mX7_init)) 1 Lib.objectInit, Cond.instanceMethod Lib.objectInit, Cond.code Lib.objectInit ⟨#[0xb1]⟩ 1 none], w ∈ Wd := mWs _ [683, 96, 97] (by decide +kernel) (by decide +kernel)
theorem fd0 : ∀ j, j < Nn 0 → defaultValue (tyn 0 j) = vp_V [.null, .null, .null, .int 0, .int 0] j := by
  intro j hj
  match j, hj with
  | 0, _ => rfl
  | 1, _ => rfl
  | 2, _ => rfl
  | 3, _ => rfl
  | 4, _ => rfl
  | j + 5, h => exact absurd h (by show ¬ j + 5 < 5; omega)
theorem fd1 : ∀ j, j < Nn 1 → defaultValue (tyn 1 j) = vp_V [.null, .null, .long 0] j := by
  intro j hj
  match j, hj with
  | 0, _ => rfl
  | 1, _ => rfl
  | 2, _ => rfl
  | j + 3, h => exact absurd h (by show ¬ j + 3 < 3; omega)
theorem fd2 : ∀ j, j < Nn 2 → defaultValue (tyn 2 j) = vp_V [.null, .null, .int 0, .int 0] j := by
  intro j hj
  match j, hj with
  | 0, _ => rfl
  | 1, _ => rfl
  | 2, _ => rfl
  | 3, _ => rfl
  | j + 4, h => exact absurd h (by show ¬ j + 4 < 4; omega)
theorem fd3 : ∀ j, j < Nn 3 → defaultValue (tyn 3 j) = vp_V [.null, .null, .null, .null, .null, .null] j := by
  intro j hj
  match j, hj with
  | 0, _ => rfl
  | 1, _ => rfl
  | 2, _ => rfl
  | 3, _ => rfl
  | 4, _ => rfl
  | 5, _ => rfl
  | j + 6, h => exact absurd h (by show ¬ j + 6 < 6; omega)
theorem fd4 : ∀ j, j < Nn 4 → defaultValue (tyn 4 j) = vp_V [.null, .null, .null, .null, .null, .null, .int 0, .int 0, .int 0, .int 0] j := by
  intro j hj
  match j, hj with
  | 0, _ => rfl
  | 1, _ => rfl
  | 2, _ => rfl
  | 3, _ => rfl
  | 4, _ => rfl
  | 5, _ => rfl
  | 6, _ => rfl
  | 7, _ => rfl
  | 8, _ => rfl
  | 9, _ => rfl
  | j + 10, h => exact absurd h (by show ¬ j + 10 < 10; omega)
theorem fd5 : ∀ j, j < Nn 5 → defaultValue (tyn 5 j) = vp_V [.null, .int 0, .int 0, .int 0, .int 0, .int 0, .null] j := by
  intro j hj
  match j, hj with
  | 0, _ => rfl
  | 1, _ => rfl
  | 2, _ => rfl
  | 3, _ => rfl
  | 4, _ => rfl
  | 5, _ => rfl
  | 6, _ => rfl
  | j + 7, h => exact absurd h (by show ¬ j + 7 < 7; omega)
theorem fd6 : ∀ j, j < Nn 6 → defaultValue (tyn 6 j) = vp_V [.null, .null, .null, .null, .null, .null, .null, .null, .null] j := by
  intro j hj
  match j, hj with
  | 0, _ => rfl
  | 1, _ => rfl
  | 2, _ => rfl
  | 3, _ => rfl
  | 4, _ => rfl
  | 5, _ => rfl
  | 6, _ => rfl
  | 7, _ => rfl
  | 8, _ => rfl
  | j + 9, h => exact absurd h (by show ¬ j + 9 < 9; omega)
theorem fd7 : ∀ j, j < Nn 7 → defaultValue (tyn 7 j) = vp_V [.long 0, .null, .int 0, .null, .null, .null, .null, .null, .null, .null, .null, .null, .int 0, .int 0, .int 0, .int 0, .int 0, .int 0, .null, .null, .null, .null] j := by
  intro j hj
  match j, hj with
  | 0, _ => rfl
  | 1, _ => rfl
  | 2, _ => rfl
  | 3, _ => rfl
  | 4, _ => rfl
  | 5, _ => rfl
  | 6, _ => rfl
  | 7, _ => rfl
  | 8, _ => rfl
  | 9, _ => rfl
  | 10, _ => rfl
  | 11, _ => rfl
  | 12, _ => rfl
  | 13, _ => rfl
  | 14, _ => rfl
  | 15, _ => rfl
  | 16, _ => rfl
  | 17, _ => rfl
  | 18, _ => rfl
  | 19, _ => rfl
  | 20, _ => rfl
  | 21, _ => rfl
  | j + 22, h => exact absurd h (by show ¬ j + 22 < 22; omega)
set_option maxRecDepth 20000 in
theorem i_X2 (a : Nat) : CMet mX2_init 2 198 a 2 [.null, .null, .int 0, .int 0] [] (fun cA ws => ∃ q1 q2 : Nat, ws = [(a, .inr (2, [.ref q1, .ref q2, .int 0, .int 0])), (q1, .inl (cA 0, 18, .inl (fun _ => 0))), (q2, .inl (cA 0, 180, .inl (fun _ => 0)))]) := by
  refine cmet_en oX2_init rfl rfl (L := [some (.ref a)]) rfl (fun cA => ?_)
  refine cw_aload rfl (oX2_init.dec rfl) ?_
  refine cw_obj wO_2 rfl (oX2_init.dec rfl) ?_
  refine cw_aload rfl (oX2_init.dec rfl) ?_
  refine cw_bipush (v := nI 18) (by decide) (oX2_init.dec rfl) ?_
  refine cw_newa (atype := .int) (e := 0) (N := 18) (by decide) rfl rfl (by decide) arrW0 rfl rfl (oX2_init.dec rfl) (fun q1 => ?_)
  refine cw_putF 0 (j := 0) (ws' := [(a, .inr (2, [.ref q1, .null, .int 0, .int 0])), (q1, .inl (cA 0, 18, .inl (fun _ => 0)))]) rfl rfl rfl rfl rfl rfl (Nat.le_of_ble_eq_true rfl) rfl (oX2_init.dec rfl) ?_
  refine cw_aload rfl (oX2_init.dec rfl) ?_
  refine cw_sipush (v := nI 180) (by decide) (oX2_init.dec rfl) ?_
  refine cw_newa (atype := .int) (e := 0) (N := 180) (by decide) rfl rfl (by decide) arrW0 rfl rfl (oX2_init.dec rfl) (fun q2 => ?_)
  refine cw_putF 0 (j := 1) (ws' := [(a, .inr (2, [.ref q1, .ref q2, .int 0, .int 0])), (q1, .inl (cA 0, 18, .inl (fun _ => 0))), (q2, .inl (cA 0, 180, .inl (fun _ => 0)))]) rfl rfl rfl rfl rfl rfl (Nat.le_of_ble_eq_true rfl) rfl (oX2_init.dec rfl) ?_
  exact cw_vret rfl (⟨q1, q2, rfl⟩) rfl rfl (oX2_init.dec rfl)
set_option maxRecDepth 20000 in
theorem i_X4 (a : Nat) : CMet mX4_init 6 44 a 4 [.null, .null, .null, .null, .null, .null, .int 0, .int 0, .int 0, .int 0] [] (fun cA ws => ∃ q1 q2 q3 q4 q5 q6 : Nat, ws = [(a, .inr (4, [.ref q1, .ref q2, .ref q3, .ref q4, .ref q5, .ref q6, .int 0, .int 0, .int (nI 2), .int 0])), (q1, .inl (cA 0, 12, .inl (fun _ => 0))), (q2, .inl (cA 0, 12, .inl (fun _ => 0))), (q3, .inl (cA 0, 5, .inl (fun _ => 0))), (q4, .inl (cA 0, 5, .inl (fun _ => 0))), (q5, .inl (cA 0, 5, .inl (fun _ => 0))), (q6, .inl (cA 0, 5, .inl (fun _ => 0)))]) := by
  refine cmet_en oX4_init rfl rfl (L := [some (.ref a)]) rfl (fun cA => ?_)
  refine cw_aload rfl (oX4_init.dec rfl) ?_
  refine cw_obj wO_4 rfl (oX4_init.dec rfl) ?_
  refine cw_aload rfl (oX4_init.dec rfl) ?_
  refine cw_bipush (v := nI 12) (by decide) (oX4_init.dec rfl) ?_
  refine cw_newa (atype := .int) (e := 0) (N := 12) (by decide) rfl rfl (by decide) arrW0 rfl rfl (oX4_init.dec rfl) (fun q1 => ?_)
  refine cw_putF 0 (j := 0) (ws' := [(a, .inr (4, [.ref q1, .null, .null, .null, .null, .null, .int 0, .int 0, .int 0, .int 0])), (q1, .inl (cA 0, 12, .inl (fun _ => 0)))]) rfl rfl rfl rfl rfl rfl (Nat.le_of_ble_eq_true rfl) rfl (oX4_init.dec rfl) ?_
  refine cw_aload rfl (oX4_init.dec rfl) ?_
  refine cw_bipush (v := nI 12) (by decide) (oX4_init.dec rfl) ?_
  refine cw_newa (atype := .int) (e := 0) (N := 12) (by decide) rfl rfl (by decide) arrW0 rfl rfl (oX4_init.dec rfl) (fun q2 => ?_)
  refine cw_putF 0 (j := 1) (ws' := [(a, .inr (4, [.ref q1, .ref q2, .null, .null, .null, .null, .int 0, .int 0, .int 0, .int 0])), (q1, .inl (cA 0, 12, .inl (fun _ => 0))), (q2, .inl (cA 0, 12, .inl (fun _ => 0)))]) rfl rfl rfl rfl rfl rfl (Nat.le_of_ble_eq_true rfl) rfl (oX4_init.dec rfl) ?_
  refine cw_aload rfl (oX4_init.dec rfl) ?_
  refine cw_iconst (v := nI 5) (by decide) (oX4_init.dec rfl) ?_
  refine cw_newa (atype := .int) (e := 0) (N := 5) (by decide) rfl rfl (by decide) arrW0 rfl rfl (oX4_init.dec rfl) (fun q3 => ?_)
  refine cw_putF 0 (j := 2) (ws' := [(a, .inr (4, [.ref q1, .ref q2, .ref q3, .null, .null, .null, .int 0, .int 0, .int 0, .int 0])), (q1, .inl (cA 0, 12, .inl (fun _ => 0))), (q2, .inl (cA 0, 12, .inl (fun _ => 0))), (q3, .inl (cA 0, 5, .inl (fun _ => 0)))]) rfl rfl rfl rfl rfl rfl (Nat.le_of_ble_eq_true rfl) rfl (oX4_init.dec rfl) ?_
  refine cw_aload rfl (oX4_init.dec rfl) ?_
  refine cw_iconst (v := nI 5) (by decide) (oX4_init.dec rfl) ?_
  refine cw_newa (atype := .int) (e := 0) (N := 5) (by decide) rfl rfl (by decide) arrW0 rfl rfl (oX4_init.dec rfl) (fun q4 => ?_)
  refine cw_putF 0 (j := 3) (ws' := [(a, .inr (4, [.ref q1, .ref q2, .ref q3, .ref q4, .null, .null, .int 0, .int 0, .int 0, .int 0])), (q1, .inl (cA 0, 12, .inl (fun _ => 0))), (q2, .inl (cA 0, 12, .inl (fun _ => 0))), (q3, .inl (cA 0, 5, .inl (fun _ => 0))), (q4, .inl (cA 0, 5, .inl (fun _ => 0)))]) rfl rfl rfl rfl rfl rfl (Nat.le_of_ble_eq_true rfl) rfl (oX4_init.dec rfl) ?_
  refine cw_aload rfl (oX4_init.dec rfl) ?_
  refine cw_iconst (v := nI 5) (by decide) (oX4_init.dec rfl) ?_
  refine cw_newa (atype := .int) (e := 0) (N := 5) (by decide) rfl rfl (by decide) arrW0 rfl rfl (oX4_init.dec rfl) (fun q5 => ?_)
  refine cw_putF 0 (j := 4) (ws' := [(a, .inr (4, [.ref q1, .ref q2, .ref q3, .ref q4, .ref q5, .null, .int 0, .int 0, .int 0, .int 0])), (q1, .inl (cA 0, 12, .inl (fun _ => 0))), (q2, .inl (cA 0, 12, .inl (fun _ => 0))), (q3, .inl (cA 0, 5, .inl (fun _ => 0))), (q4, .inl (cA 0, 5, .inl (fun _ => 0))), (q5, .inl (cA 0, 5, .inl (fun _ => 0)))]) rfl rfl rfl rfl rfl rfl (Nat.le_of_ble_eq_true rfl) rfl (oX4_init.dec rfl) ?_
  refine cw_aload rfl (oX4_init.dec rfl) ?_
  refine cw_iconst (v := nI 5) (by decide) (oX4_init.dec rfl) ?_
  refine cw_newa (atype := .int) (e := 0) (N := 5) (by decide) rfl rfl (by decide) arrW0 rfl rfl (oX4_init.dec rfl) (fun q6 => ?_)
  refine cw_putF 0 (j := 5) (ws' := [(a, .inr (4, [.ref q1, .ref q2, .ref q3, .ref q4, .ref q5, .ref q6, .int 0, .int 0, .int 0, .int 0])), (q1, .inl (cA 0, 12, .inl (fun _ => 0))), (q2, .inl (cA 0, 12, .inl (fun _ => 0))), (q3, .inl (cA 0, 5, .inl (fun _ => 0))), (q4, .inl (cA 0, 5, .inl (fun _ => 0))), (q5, .inl (cA 0, 5, .inl (fun _ => 0))), (q6, .inl (cA 0, 5, .inl (fun _ => 0)))]) rfl rfl rfl rfl rfl rfl (Nat.le_of_ble_eq_true rfl) rfl (oX4_init.dec rfl) ?_
  refine cw_aload rfl (oX4_init.dec rfl) ?_
  refine cw_iconst (v := nI 2) (by decide) (oX4_init.dec rfl) ?_
  refine cw_put 0 (j := 8) (ws' := [(a, .inr (4, [.ref q1, .ref q2, .ref q3, .ref q4, .ref q5, .ref q6, .int 0, .int 0, .int (nI 2), .int 0])), (q1, .inl (cA 0, 12, .inl (fun _ => 0))), (q2, .inl (cA 0, 12, .inl (fun _ => 0))), (q3, .inl (cA 0, 5, .inl (fun _ => 0))), (q4, .inl (cA 0, 5, .inl (fun _ => 0))), (q5, .inl (cA 0, 5, .inl (fun _ => 0))), (q6, .inl (cA 0, 5, .inl (fun _ => 0)))]) rfl rfl rfl rfl rfl (Nat.le_of_ble_eq_true rfl) rfl (oX4_init.dec rfl) ?_
  exact cw_vret rfl (⟨q1, q2, q3, q4, q5, q6, rfl⟩) rfl rfl (oX4_init.dec rfl)
set_option maxRecDepth 20000 in
theorem i_X5 (a : Nat) : CMet mX5_init 2 184 a 5 [.null, .int 0, .int 0, .int 0, .int 0, .int 0, .null] [] (fun cA ws => ∃ q1 q2 : Nat, ws = [(a, .inr (5, [.ref q1, .int 0, .int 0, .int 0, .int 0, .int 0, .ref q2])), (q1, .inl (cA 0, 180, .inl (fun _ => 0))), (q2, .inl (cA 0, 4, .inl (fun _ => 0)))]) := by
  refine cmet_en oX5_init rfl rfl (L := [some (.ref a)]) rfl (fun cA => ?_)
  refine cw_aload rfl (oX5_init.dec rfl) ?_
  refine cw_obj wO_5 rfl (oX5_init.dec rfl) ?_
  refine cw_aload rfl (oX5_init.dec rfl) ?_
  refine cw_sipush (v := nI 180) (by decide) (oX5_init.dec rfl) ?_
  refine cw_newa (atype := .int) (e := 0) (N := 180) (by decide) rfl rfl (by decide) arrW0 rfl rfl (oX5_init.dec rfl) (fun q1 => ?_)
  refine cw_putF 0 (j := 0) (ws' := [(a, .inr (5, [.ref q1, .int 0, .int 0, .int 0, .int 0, .int 0, .null])), (q1, .inl (cA 0, 180, .inl (fun _ => 0)))]) rfl rfl rfl rfl rfl rfl (Nat.le_of_ble_eq_true rfl) rfl (oX5_init.dec rfl) ?_
  refine cw_aload rfl (oX5_init.dec rfl) ?_
  refine cw_slen (k0 := 101) (v := nI 4) (by decide) rfl rfl (oX5_init.dec rfl) (oX5_init.dec rfl) ?_
  refine cw_newa (atype := .int) (e := 0) (N := 4) (by decide) rfl rfl (by decide) arrW0 rfl rfl (oX5_init.dec rfl) (fun q2 => ?_)
  refine cw_putF 0 (j := 6) (ws' := [(a, .inr (5, [.ref q1, .int 0, .int 0, .int 0, .int 0, .int 0, .ref q2])), (q1, .inl (cA 0, 180, .inl (fun _ => 0))), (q2, .inl (cA 0, 4, .inl (fun _ => 0)))]) rfl rfl rfl rfl rfl rfl (Nat.le_of_ble_eq_true rfl) rfl (oX5_init.dec rfl) ?_
  exact cw_vret rfl (⟨q1, q2, rfl⟩) rfl rfl (oX5_init.dec rfl)
set_option maxRecDepth 20000 in
theorem i_X0 (a b c : Nat) : CMet mX0_init 1 6 a 0 [.null, .null, .null, .int 0, .int 0] [.ref b, .ref c] (fun cA ws => ∃ q1 : Nat, ws = [(a, .inr (0, [.ref b, .ref c, .ref q1, .int 0, .int 0])), (q1, .inl (cA 0, 6, .inl (fun _ => 0)))]) := by
  refine cmet_en oX0_init rfl rfl (L := [some (.ref a), some (.ref b), some (.ref c)]) rfl (fun cA => ?_)
  refine cw_aload rfl (oX0_init.dec rfl) ?_
  refine cw_obj wO_0 rfl (oX0_init.dec rfl) ?_
  refine cw_aload rfl (oX0_init.dec rfl) ?_
  refine cw_bipush (v := nI 6) (by decide) (oX0_init.dec rfl) ?_
  refine cw_newa (atype := .int) (e := 0) (N := 6) (by decide) rfl rfl (by decide) arrW0 rfl rfl (oX0_init.dec rfl) (fun q1 => ?_)
  refine cw_putF 0 (j := 2) (ws' := [(a, .inr (0, [.null, .null, .ref q1, .int 0, .int 0])), (q1, .inl (cA 0, 6, .inl (fun _ => 0)))]) rfl rfl rfl rfl rfl rfl (Nat.le_of_ble_eq_true rfl) rfl (oX0_init.dec rfl) ?_
  refine cw_aload rfl (oX0_init.dec rfl) ?_
  refine cw_aload rfl (oX0_init.dec rfl) ?_
  refine cw_putF 0 (j := 0) (ws' := [(a, .inr (0, [.ref b, .null, .ref q1, .int 0, .int 0])), (q1, .inl (cA 0, 6, .inl (fun _ => 0)))]) rfl rfl rfl rfl rfl rfl (Nat.le_of_ble_eq_true rfl) rfl (oX0_init.dec rfl) ?_
  refine cw_aload rfl (oX0_init.dec rfl) ?_
  refine cw_aload rfl (oX0_init.dec rfl) ?_
  refine cw_putF 0 (j := 1) (ws' := [(a, .inr (0, [.ref b, .ref c, .ref q1, .int 0, .int 0])), (q1, .inl (cA 0, 6, .inl (fun _ => 0)))]) rfl rfl rfl rfl rfl rfl (Nat.le_of_ble_eq_true rfl) rfl (oX0_init.dec rfl) ?_
  exact cw_vret rfl (⟨q1, rfl⟩) rfl rfl (oX0_init.dec rfl)
set_option maxRecDepth 20000 in
theorem i_X1 (a b c : Nat) : CMet mX1_init 0 0 a 1 [.null, .null, .long 0] [.ref b, .ref c] (fun cA ws => ws = [(a, .inr (1, [.ref b, .ref c, .long 0]))]) := by
  refine cmet_en oX1_init rfl rfl (L := [some (.ref a), some (.ref b), some (.ref c)]) rfl (fun cA => ?_)
  refine cw_aload rfl (oX1_init.dec rfl) ?_
  refine cw_obj wO_1 rfl (oX1_init.dec rfl) ?_
  refine cw_aload rfl (oX1_init.dec rfl) ?_
  refine cw_aload rfl (oX1_init.dec rfl) ?_
  refine cw_putF 0 (j := 0) (ws' := [(a, .inr (1, [.ref b, .null, .long 0]))]) rfl rfl rfl rfl rfl rfl (Nat.le_of_ble_eq_true rfl) rfl (oX1_init.dec rfl) ?_
  refine cw_aload rfl (oX1_init.dec rfl) ?_
  refine cw_aload rfl (oX1_init.dec rfl) ?_
  refine cw_putF 0 (j := 1) (ws' := [(a, .inr (1, [.ref b, .ref c, .long 0]))]) rfl rfl rfl rfl rfl rfl (Nat.le_of_ble_eq_true rfl) rfl (oX1_init.dec rfl) ?_
  exact cw_vret rfl (rfl) rfl rfl (oX1_init.dec rfl)
set_option maxRecDepth 20000 in
theorem i_X3 (a b c d : Nat) : CMet mX3_init 3 864 a 3 [.null, .null, .null, .null, .null, .null] [.ref b, .ref c, .ref d] (fun cA ws => ∃ q1 q2 q3 : Nat, ws = [(a, .inr (3, [.ref b, .ref c, .ref d, .ref q1, .ref q2, .ref q3])), (q1, .inl (cA 0, 416, .inl (fun _ => 0))), (q2, .inl (cA 0, 416, .inl (fun _ => 0))), (q3, .inl (cA 0, 32, .inl (fun _ => 0)))]) := by
  refine cmet_en oX3_init rfl rfl (L := [some (.ref a), some (.ref b), some (.ref c), some (.ref d)]) rfl (fun cA => ?_)
  refine cw_aload rfl (oX3_init.dec rfl) ?_
  refine cw_obj wO_3 rfl (oX3_init.dec rfl) ?_
  refine cw_aload rfl (oX3_init.dec rfl) ?_
  refine cw_sipush (v := nI 416) (by decide) (oX3_init.dec rfl) ?_
  refine cw_newa (atype := .int) (e := 0) (N := 416) (by decide) rfl rfl (by decide) arrW0 rfl rfl (oX3_init.dec rfl) (fun q1 => ?_)
  refine cw_putF 0 (j := 3) (ws' := [(a, .inr (3, [.null, .null, .null, .ref q1, .null, .null])), (q1, .inl (cA 0, 416, .inl (fun _ => 0)))]) rfl rfl rfl rfl rfl rfl (Nat.le_of_ble_eq_true rfl) rfl (oX3_init.dec rfl) ?_
  refine cw_aload rfl (oX3_init.dec rfl) ?_
  refine cw_sipush (v := nI 416) (by decide) (oX3_init.dec rfl) ?_
  refine cw_newa (atype := .int) (e := 0) (N := 416) (by decide) rfl rfl (by decide) arrW0 rfl rfl (oX3_init.dec rfl) (fun q2 => ?_)
  refine cw_putF 0 (j := 4) (ws' := [(a, .inr (3, [.null, .null, .null, .ref q1, .ref q2, .null])), (q1, .inl (cA 0, 416, .inl (fun _ => 0))), (q2, .inl (cA 0, 416, .inl (fun _ => 0)))]) rfl rfl rfl rfl rfl rfl (Nat.le_of_ble_eq_true rfl) rfl (oX3_init.dec rfl) ?_
  refine cw_aload rfl (oX3_init.dec rfl) ?_
  refine cw_bipush (v := nI 32) (by decide) (oX3_init.dec rfl) ?_
  refine cw_newa (atype := .int) (e := 0) (N := 32) (by decide) rfl rfl (by decide) arrW0 rfl rfl (oX3_init.dec rfl) (fun q3 => ?_)
  refine cw_putF 0 (j := 5) (ws' := [(a, .inr (3, [.null, .null, .null, .ref q1, .ref q2, .ref q3])), (q1, .inl (cA 0, 416, .inl (fun _ => 0))), (q2, .inl (cA 0, 416, .inl (fun _ => 0))), (q3, .inl (cA 0, 32, .inl (fun _ => 0)))]) rfl rfl rfl rfl rfl rfl (Nat.le_of_ble_eq_true rfl) rfl (oX3_init.dec rfl) ?_
  refine cw_aload rfl (oX3_init.dec rfl) ?_
  refine cw_aload rfl (oX3_init.dec rfl) ?_
  refine cw_putF 0 (j := 0) (ws' := [(a, .inr (3, [.ref b, .null, .null, .ref q1, .ref q2, .ref q3])), (q1, .inl (cA 0, 416, .inl (fun _ => 0))), (q2, .inl (cA 0, 416, .inl (fun _ => 0))), (q3, .inl (cA 0, 32, .inl (fun _ => 0)))]) rfl rfl rfl rfl rfl rfl (Nat.le_of_ble_eq_true rfl) rfl (oX3_init.dec rfl) ?_
  refine cw_aload rfl (oX3_init.dec rfl) ?_
  refine cw_aload rfl (oX3_init.dec rfl) ?_
  refine cw_putF 0 (j := 1) (ws' := [(a, .inr (3, [.ref b, .ref c, .null, .ref q1, .ref q2, .ref q3])), (q1, .inl (cA 0, 416, .inl (fun _ => 0))), (q2, .inl (cA 0, 416, .inl (fun _ => 0))), (q3, .inl (cA 0, 32, .inl (fun _ => 0)))]) rfl rfl rfl rfl rfl rfl (Nat.le_of_ble_eq_true rfl) rfl (oX3_init.dec rfl) ?_
  refine cw_aload rfl (oX3_init.dec rfl) ?_
  refine cw_aload rfl (oX3_init.dec rfl) ?_
  refine cw_putF 0 (j := 2) (ws' := [(a, .inr (3, [.ref b, .ref c, .ref d, .ref q1, .ref q2, .ref q3])), (q1, .inl (cA 0, 416, .inl (fun _ => 0))), (q2, .inl (cA 0, 416, .inl (fun _ => 0))), (q3, .inl (cA 0, 32, .inl (fun _ => 0)))]) rfl rfl rfl rfl rfl rfl (Nat.le_of_ble_eq_true rfl) rfl (oX3_init.dec rfl) ?_
  exact cw_vret rfl (⟨q1, q2, q3, rfl⟩) rfl rfl (oX3_init.dec rfl)
