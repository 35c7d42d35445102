noncomputable def fX0_clear (c_which : Int32) : Option (Int32) :=
  some ((-1 : Int32))
noncomputable def fX0_offer_32 (i1 : Int32) (i2 : Int32) (i3 : Int32)  (c_which : Int32) (c_settled : Int32) (c_falls : Int32) : Option (Int32 × Int32 × Int32) :=
  some (i1, i2, i3)
noncomputable def fX0_offer (i1 : Int32) (i2 : Int32) (i3 : Int32) (c_which : Int32) (c_settled : Int32) (c_falls : Int32) : Option (Int32 × Int32 × Int32) :=
  if c_which = (-1 : Int32) then (
  fX0_offer_32 i1 i2 i3 c_which c_settled c_falls)
  else (
  if i2 < c_settled then (
  fX0_offer_32 i1 i2 i3 c_which c_settled c_falls)
  else (
  if i2 = c_settled then (
  if c_falls ≤ i3 then (
  some (c_which, c_settled, c_falls))
  else (
  fX0_offer_32 i1 i2 i3 c_which c_settled c_falls))
  else (
  some (c_which, c_settled, c_falls))))
noncomputable def fX0_part (i1 : Int32) (c_which : Int32) (c_settled : Int32) (c_falls : Int32) : Option (Int32) :=
  if i1 = (0 : Int32) then (
  some (c_which))
  else (
  if i1 = (1 : Int32) then (
  some (c_settled))
  else (
  some (c_falls)))
noncomputable def bX1_begin_10 (c1_size : Int32) (c1_paid : Nat → Int32)  (self : Int32 → (Nat → Int32) → (Nat → Int32) → (Nat → Int32) → (Nat → Int32) → (Nat → Int32) → (Nat → Int32) → Int32 → (Option (Int32 × (Nat → Int32) × (Nat → Int32) × (Nat → Int32) × (Nat → Int32) × (Nat → Int32) × (Nat → Int32)))) (c_size : Int32) (c_settled : Nat → Int32) (c_falls : Nat → Int32) (c_passed : Nat → Int32) (c_floor : Nat → Int32) (c_left : Nat → Int32) (c_order : Nat → Int32) (i2 : Int32) : Option (Int32 × (Nat → Int32) × (Nat → Int32) × (Nat → Int32) × (Nat → Int32) × (Nat → Int32) × (Nat → Int32)) :=
  if c_size ≤ i2 then (
  some (c_size, c_settled, c_falls, c_passed, c_floor, c_left, c_order))
  else (
  wrI 8 c_settled i2 (-1 : Int32) (fun c_settled_1 =>
  wrI 8 c_falls i2 (0 : Int32) (fun c_falls_2 =>
  wrI 8 c_passed i2 (0 : Int32) (fun c_passed_3 =>
  wrI 8 c_floor i2 (0 : Int32) (fun c_floor_4 =>
  rdA 8 c1_paid i2 (fun v_5 =>
  wrI 8 c_left i2 ((3 : Int32) * v_5) (fun c_left_6 =>
  wrI 8 c_order i2 i2 (fun c_order_7 =>
  nmV (i2 + (1 : Int32)) (fun i2_8 =>
  self c_size c_settled_1 c_falls_2 c_passed_3 c_floor_4 c_left_6 c_order_7 i2_8)))))))))
noncomputable def fX1_begin_10 (c1_size : Int32) (c1_paid : Nat → Int32)  (n : Nat) : Int32 → (Nat → Int32) → (Nat → Int32) → (Nat → Int32) → (Nat → Int32) → (Nat → Int32) → (Nat → Int32) → Int32 → (Option (Int32 × (Nat → Int32) × (Nat → Int32) × (Nat → Int32) × (Nat → Int32) × (Nat → Int32) × (Nat → Int32))) := lpN (fun _ _ _ _ _ _ _ _ => none) (bX1_begin_10 c1_size c1_paid ) n
noncomputable def fX1_begin (c1_size : Int32) (c1_paid : Nat → Int32) (c_size : Int32) (c_settled : Nat → Int32) (c_falls : Nat → Int32) (c_passed : Nat → Int32) (c_floor : Nat → Int32) (c_left : Nat → Int32) (c_order : Nat → Int32) : Option (Int32 × (Nat → Int32) × (Nat → Int32) × (Nat → Int32) × (Nat → Int32) × (Nat → Int32) × (Nat → Int32)) :=
  fX1_begin_10 c1_size c1_paid jF c1_size c_settled c_falls c_passed c_floor c_left c_order (0 : Int32)
noncomputable def fX1_livingBetween_39 (i1 : Int32) (i2 : Int32) (c_size : Int32) (c_floor : Nat → Int32) (q_5 : Int32 → Int32 → Option (Int32)) (i3 : Int32) (i4 : Int32) : Option (Int32) :=
  nmV (i4 + (1 : Int32)) (fun i4_2 =>
  q_5 i3 i4_2)
noncomputable def bX1_livingBetween_5 (i1 : Int32) (i2 : Int32) (c_size : Int32) (c_floor : Nat → Int32)  (self : Int32 → Int32 → Option (Int32)) (i3 : Int32) (i4 : Int32) : Option (Int32) :=
  if c_size ≤ i4 then (
  some (i3))
  else (
  rdA 8 c_floor i4 (fun v_1 =>
  if v_1 ≤ i1 then (
  fX1_livingBetween_39 i1 i2 c_size c_floor self i3 i4)
  else (
  rdA 8 c_floor i4 (fun v_3 =>
  if i2 ≤ v_3 then (
  fX1_livingBetween_39 i1 i2 c_size c_floor self i3 i4)
  else (
  nmV (i3 + (1 : Int32)) (fun i3_4 =>
  fX1_livingBetween_39 i1 i2 c_size c_floor self i3_4 i4))))))
noncomputable def fX1_livingBetween_5 (i1 : Int32) (i2 : Int32) (c_size : Int32) (c_floor : Nat → Int32)  (n : Nat) : Int32 → Int32 → Option (Int32) := lpN (fun _ _ => none) (bX1_livingBetween_5 i1 i2 c_size c_floor ) n
noncomputable def fX1_livingBetween (i1 : Int32) (i2 : Int32) (c_size : Int32) (c_floor : Nat → Int32) : Option (Int32) :=
  fX1_livingBetween_5 i1 i2 c_size c_floor jF (0 : Int32) (0 : Int32)
noncomputable def fX1_countFalls_81 (i1 : Int32) (c_size : Int32) (c_floor : Nat → Int32) (c_before : Nat → Int32) (q_9 : (Nat → Int32) → (Nat → Int32) → (Nat → Int32) → Int32 → (Option ((Nat → Int32) × (Nat → Int32) × (Nat → Int32)))) (c_falls : Nat → Int32) (c_passed : Nat → Int32) (c_fallers : Nat → Int32) (i2 : Int32) : Option ((Nat → Int32) × (Nat → Int32) × (Nat → Int32)) :=
  nmV (i2 + (1 : Int32)) (fun i2_4 =>
  q_9 c_falls c_passed c_fallers i2_4)
noncomputable def bX1_countFalls_9 (i1 : Int32) (c_size : Int32) (c_floor : Nat → Int32) (c_before : Nat → Int32)  (self : (Nat → Int32) → (Nat → Int32) → (Nat → Int32) → Int32 → (Option ((Nat → Int32) × (Nat → Int32) × (Nat → Int32)))) (c_falls : Nat → Int32) (c_passed : Nat → Int32) (c_fallers : Nat → Int32) (i2 : Int32) : Option ((Nat → Int32) × (Nat → Int32) × (Nat → Int32)) :=
  if c_size ≤ i2 then (
  some (c_falls, c_passed, c_fallers))
  else (
  rdA 8 c_floor i2 (fun v_2 =>
  rdA 8 c_before i2 (fun v_3 =>
  if (v_3 - (2 : Int32)) < v_2 then (
  fX1_countFalls_81 i1 c_size c_floor c_before self c_falls c_passed c_fallers i2)
  else (
  rdA 24 c_fallers i1 (fun v_5 =>
  wrI 24 c_fallers i1 (v_5 ||| ((1 : Int32) <<< (i2 &&& (31 : Int32)))) (fun c_fallers_6 =>
  rdA 8 c_falls i2 (fun v_7 =>
  wrI 8 c_falls i2 (v_7 + (1 : Int32)) (fun c_falls_8 =>
  rdA 8 c_passed i2 (fun v_9 =>
  rdA 8 c_floor i2 (fun v_10 =>
  rdA 8 c_before i2 (fun v_11 =>
  bd1 (fX1_livingBetween v_10 v_11 c_size c_floor) (fun r_12 =>
  wrI 8 c_passed i2 (v_9 + r_12) (fun c_passed_13 =>
  fX1_countFalls_81 i1 c_size c_floor c_before self c_falls_8 c_passed_13 c_fallers_6 i2)))))))))))))
noncomputable def fX1_countFalls_9 (i1 : Int32) (c_size : Int32) (c_floor : Nat → Int32) (c_before : Nat → Int32)  (n : Nat) : (Nat → Int32) → (Nat → Int32) → (Nat → Int32) → Int32 → (Option ((Nat → Int32) × (Nat → Int32) × (Nat → Int32))) := lpN (fun _ _ _ _ => none) (bX1_countFalls_9 i1 c_size c_floor c_before ) n
noncomputable def fX1_countFalls (i1 : Int32) (c_size : Int32) (c_floor : Nat → Int32) (c_before : Nat → Int32) (c_falls : Nat → Int32) (c_passed : Nat → Int32) (c_fallers : Nat → Int32) : Option ((Nat → Int32) × (Nat → Int32) × (Nat → Int32)) :=
  wrI 24 c_fallers i1 (0 : Int32) (fun c_fallers_1 =>
  fX1_countFalls_9 i1 c_size c_floor c_before jF c_falls c_passed c_fallers_1 (0 : Int32))
noncomputable def bJ7_fill_53178_5 (i1 : Int32) (n0 : Nat)  (self : (Nat → Int32) → Int32 → Int32 → (Option ((Nat → Int32)))) (c_a : Nat → Int32) (i2 : Int32) (i3 : Int32) : Option ((Nat → Int32)) :=
  if i3 ≤ i2 then (
  some (c_a))
  else (
  wrI n0 c_a i2 i1 (fun c_a_2 =>
  nmV (i2 + (1 : Int32)) (fun i2_3 =>
  self c_a_2 i2_3 i3)))
noncomputable def fJ7_fill_53178_5 (i1 : Int32) (n0 : Nat)  (n : Nat) : (Nat → Int32) → Int32 → Int32 → (Option ((Nat → Int32))) := lpN (fun _ _ _ => none) (bJ7_fill_53178_5 i1 n0 ) n
noncomputable def fJ7_fill_53178 (i1 : Int32) (n0 : Nat) (c_a : Nat → Int32) : Option ((Nat → Int32)) :=
  nmV ((nI n0)) (fun i3_1 =>
  fJ7_fill_53178_5 i1 n0 jF c_a (0 : Int32) i3_1)
noncomputable def bX1_roomBelow_2 (i1 : Int32) (i2 : Int32)  (self : (Nat → Int32) → Int32 → (Option (Int32 × (Nat → Int32)))) (c_taken : Nat → Int32) (i3 : Int32) : Option (Int32 × (Nat → Int32)) :=
  if i3 ≤ (0 : Int32) then (
  some ((0 : Int32), c_taken))
  else (
  rdA 13 c_taken i3 (fun v_1 =>
  if i2 ≤ v_1 then (
  nmV (i3 + (-1 : Int32)) (fun i3_2 =>
  self c_taken i3_2))
  else (
  rdA 13 c_taken i3 (fun v_3 =>
  wrI 13 c_taken i3 (v_3 + (1 : Int32)) (fun c_taken_4 =>
  some (i3, c_taken_4))))))
noncomputable def fX1_roomBelow_2 (i1 : Int32) (i2 : Int32)  (n : Nat) : (Nat → Int32) → Int32 → (Option (Int32 × (Nat → Int32))) := lpN (fun _ _ => none) (bX1_roomBelow_2 i1 i2 ) n
noncomputable def fX1_roomBelow (i1 : Int32) (i2 : Int32) (c_taken : Nat → Int32) : Option (Int32 × (Nat → Int32)) :=
  fX1_roomBelow_2 i1 i2 jF c_taken i1
noncomputable def fX1_wanted_30 (i1 : Int32) (i2 : Int32) (c_left : Nat → Int32)  (t0 : Int32) (t1 : Int32) (t2 : Int32) : Option (Int32) :=
  some ((if (t1 + t0) < t2 then (t1 + t0) else t2))
noncomputable def fX1_wanted (i1 : Int32) (i2 : Int32) (c_left : Nat → Int32) : Option (Int32) :=
  rdA 8 c_left i1 (fun v_1 =>
  if (0 : Int32) ≤ v_1 then (
  rdA 8 c_left i1 (fun v_2 =>
  if i2 = (0 : Int32) then (
  fX1_wanted_30 i1 i2 c_left (1 : Int32) (v_2 / (3 : Int32)) (12 : Int32))
  else (
  fX1_wanted_30 i1 i2 c_left (0 : Int32) (v_2 / (3 : Int32)) (12 : Int32))))
  else (
  some ((0 : Int32))))
noncomputable def fX1_giveFloors_56 (i1 : Int32) (i2 : Int32) (c_size : Int32) (c_left : Nat → Int32) (c_order : Nat → Int32) (q_10 : (Nat → Int32) → (Nat → Int32) → Int32 → (Option ((Nat → Int32) × (Nat → Int32)))) (c_floor : Nat → Int32) (c_taken : Nat → Int32) (i3 : Int32) : Option ((Nat → Int32) × (Nat → Int32)) :=
  nmV (i3 + (1 : Int32)) (fun i3_4 =>
  q_10 c_floor c_taken i3_4)
noncomputable def bX1_giveFloors_10 (i1 : Int32) (i2 : Int32) (c_size : Int32) (c_left : Nat → Int32) (c_order : Nat → Int32)  (self : (Nat → Int32) → (Nat → Int32) → Int32 → (Option ((Nat → Int32) × (Nat → Int32)))) (c_floor : Nat → Int32) (c_taken : Nat → Int32) (i3 : Int32) : Option ((Nat → Int32) × (Nat → Int32)) :=
  if c_size ≤ i3 then (
  some (c_floor, c_taken))
  else (
  rdA 8 c_order i3 (fun v_2 =>
  rdA 8 c_floor v_2 (fun v_3 =>
  if v_3 = (-1 : Int32) then (
  fX1_giveFloors_56 i1 i2 c_size c_left c_order self c_floor c_taken i3)
  else (
  bd1 (fX1_wanted v_2 i2 c_left) (fun r_5 =>
  bd2 (fX1_roomBelow r_5 i1 c_taken) (fun r_6 c_taken_7 =>
  wrI 8 c_floor v_2 r_6 (fun c_floor_8 =>
  fX1_giveFloors_56 i1 i2 c_size c_left c_order self c_floor_8 c_taken_7 i3)))))))
noncomputable def fX1_giveFloors_10 (i1 : Int32) (i2 : Int32) (c_size : Int32) (c_left : Nat → Int32) (c_order : Nat → Int32)  (n : Nat) : (Nat → Int32) → (Nat → Int32) → Int32 → (Option ((Nat → Int32) × (Nat → Int32))) := lpN (fun _ _ _ => none) (bX1_giveFloors_10 i1 i2 c_size c_left c_order ) n
noncomputable def fX1_giveFloors (i1 : Int32) (i2 : Int32) (c_size : Int32) (c_left : Nat → Int32) (c_order : Nat → Int32) (c_floor : Nat → Int32) (c_taken : Nat → Int32) : Option ((Nat → Int32) × (Nat → Int32)) :=
  bd1 (fJ7_fill_53178 (0 : Int32) 13 c_taken) (fun c_taken_1 =>
  fX1_giveFloors_10 i1 i2 c_size c_left c_order jF c_floor c_taken_1 (0 : Int32))
noncomputable def bX1_keep_2 (i1 : Int32) (c_size : Int32) (c_floor : Nat → Int32) (c_left : Nat → Int32)  (self : (Nat → Int32) → (Nat → Int32) → Int32 → (Option ((Nat → Int32) × (Nat → Int32)))) (c_floors : Nat → Int32) (c_lefts : Nat → Int32) (i2 : Int32) : Option ((Nat → Int32) × (Nat → Int32)) :=
  if c_size ≤ i2 then (
  some (c_floors, c_lefts))
  else (
  rdA 8 c_floor i2 (fun v_1 =>
  wrI 192 c_floors ((i1 * (8 : Int32)) + i2) v_1 (fun c_floors_2 =>
  rdA 8 c_left i2 (fun v_3 =>
  wrI 192 c_lefts ((i1 * (8 : Int32)) + i2) v_3 (fun c_lefts_4 =>
  nmV (i2 + (1 : Int32)) (fun i2_5 =>
  self c_floors_2 c_lefts_4 i2_5))))))
noncomputable def fX1_keep_2 (i1 : Int32) (c_size : Int32) (c_floor : Nat → Int32) (c_left : Nat → Int32)  (n : Nat) : (Nat → Int32) → (Nat → Int32) → Int32 → (Option ((Nat → Int32) × (Nat → Int32))) := lpN (fun _ _ _ => none) (bX1_keep_2 i1 c_size c_floor c_left ) n
noncomputable def fX1_keep (i1 : Int32) (c_size : Int32) (c_floor : Nat → Int32) (c_left : Nat → Int32) (c_floors : Nat → Int32) (c_lefts : Nat → Int32) : Option ((Nat → Int32) × (Nat → Int32)) :=
  fX1_keep_2 i1 c_size c_floor c_left jF c_floors c_lefts (0 : Int32)
noncomputable def fX1_meetEvents_108 (i2 : Int32) (i3 : Int32) (c_size : Int32) (c_floor : Nat → Int32) (c1_size : Int32) (c1_kind : Nat → Int32) (c1_month : Nat → Int32) (c1_number : Nat → Int32) (q_6 : (Nat → Int32) → Int32 → Int32 → (Option (Int32 × (Nat → Int32)))) (c_left : Nat → Int32) (i4 : Int32) (i5 : Int32) : Option (Int32 × (Nat → Int32)) :=
  nmV (i5 + (1 : Int32)) (fun i5_2 =>
  q_6 c_left i4 i5_2)
noncomputable def fX1_meetEvents_106 (i2 : Int32) (i3 : Int32) (c_size : Int32) (c_floor : Nat → Int32) (c1_size : Int32) (c1_kind : Nat → Int32) (c1_month : Nat → Int32) (c1_number : Nat → Int32) (q_6 : (Nat → Int32) → Int32 → Int32 → (Option (Int32 × (Nat → Int32)))) (c_left : Nat → Int32) (i4 : Int32) (i5 : Int32) (t0 : Int32) (t1 : Int32) (t2 : Int32) : Option (Int32 × (Nat → Int32)) :=
  wrI 8 c_left t2 (t1 + t0) (fun c_left_8 =>
  fX1_meetEvents_108 i2 i3 c_size c_floor c1_size c1_kind c1_month c1_number q_6 c_left_8 i4 i5)
noncomputable def bX1_meetEvents_6 (i2 : Int32) (i3 : Int32) (c_size : Int32) (c_floor : Nat → Int32) (c1_size : Int32) (c1_kind : Nat → Int32) (c1_month : Nat → Int32) (c1_number : Nat → Int32)  (self : (Nat → Int32) → Int32 → Int32 → (Option (Int32 × (Nat → Int32)))) (c_left : Nat → Int32) (i4 : Int32) (i5 : Int32) : Option (Int32 × (Nat → Int32)) :=
  if c1_size ≤ i5 then (
  ckB i4 (
  some (i4, c_left)))
  else (
  rdA 8 c1_month i5 (fun v_1 =>
  if v_1 = i3 then (
  if ((i2 >>> (i5 &&& (31 : Int32))) &&& (1 : Int32)) = (0 : Int32) then (
  fX1_meetEvents_108 i2 i3 c_size c_floor c1_size c1_kind c1_month c1_number self c_left i4 i5)
  else (
  rdA 8 c1_number i5 (fun v_3 =>
  rdA 8 c1_kind i5 (fun v_4 =>
  if v_4 = (2 : Int32) then (
  fX1_meetEvents_108 i2 i3 c_size c_floor c1_size c1_kind c1_month c1_number self c_left (1 : Int32) i5)
  else (
  if c_size ≤ v_3 then (
  fX1_meetEvents_108 i2 i3 c_size c_floor c1_size c1_kind c1_month c1_number self c_left i4 i5)
  else (
  rdA 8 c_floor v_3 (fun v_5 =>
  if v_5 = (-1 : Int32) then (
  fX1_meetEvents_108 i2 i3 c_size c_floor c1_size c1_kind c1_month c1_number self c_left i4 i5)
  else (
  rdA 8 c_left v_3 (fun v_6 =>
  rdA 8 c1_kind i5 (fun v_7 =>
  if v_7 = (1 : Int32) then (
  fX1_meetEvents_106 i2 i3 c_size c_floor c1_size c1_kind c1_month c1_number self c_left i4 i5 (3 : Int32) v_6 v_3)
  else (
  fX1_meetEvents_106 i2 i3 c_size c_floor c1_size c1_kind c1_month c1_number self c_left i4 i5 (-4 : Int32) v_6 v_3)))))))))))
  else (
  fX1_meetEvents_108 i2 i3 c_size c_floor c1_size c1_kind c1_month c1_number self c_left i4 i5)))
noncomputable def fX1_meetEvents_6 (i2 : Int32) (i3 : Int32) (c_size : Int32) (c_floor : Nat → Int32) (c1_size : Int32) (c1_kind : Nat → Int32) (c1_month : Nat → Int32) (c1_number : Nat → Int32)  (n : Nat) : (Nat → Int32) → Int32 → Int32 → (Option (Int32 × (Nat → Int32))) := lpN (fun _ _ _ => none) (bX1_meetEvents_6 i2 i3 c_size c_floor c1_size c1_kind c1_month c1_number ) n
noncomputable def fX1_meetEvents (i2 : Int32) (i3 : Int32) (c_size : Int32) (c_floor : Nat → Int32) (c1_size : Int32) (c1_kind : Nat → Int32) (c1_month : Nat → Int32) (c1_number : Nat → Int32) (c_left : Nat → Int32) : Option (Int32 × (Nat → Int32)) :=
  fX1_meetEvents_6 i2 i3 c_size c_floor c1_size c1_kind c1_month c1_number jF c_left (0 : Int32) (0 : Int32)
noncomputable def fX1_pay_56 (i1 : Int32) (i2 : Int32) (i3 : Int32) (c_floor : Nat → Int32)  (c_left : Nat → Int32) (i4 : Int32) (t0 : Int32) (t1 : Int32) (t2 : Int32) (t3 : Int32) : Option ((Nat → Int32)) :=
  wrI 8 c_left t3 (if ((t1 + t0) - i4) < t2 then ((t1 + t0) - i4) else t2) (fun c_left_4 =>
  some (c_left_4))
noncomputable def fX1_pay_31 (i1 : Int32) (i2 : Int32) (i3 : Int32) (c_floor : Nat → Int32)  (c_left : Nat → Int32) (i4 : Int32) : Option ((Nat → Int32)) :=
  rdA 8 c_left i1 (fun v_3 =>
  if i2 = (2 : Int32) then (
  fX1_pay_56 i1 i2 i3 c_floor c_left i4 (i3 / (2 : Int32)) v_3 (60 : Int32) i1)
  else (
  fX1_pay_56 i1 i2 i3 c_floor c_left i4 i3 v_3 (60 : Int32) i1))
noncomputable def fX1_pay (i1 : Int32) (i2 : Int32) (i3 : Int32) (c_floor : Nat → Int32) (c_left : Nat → Int32) : Option ((Nat → Int32)) :=
  rdA 8 c_floor i1 (fun v_1 =>
  nmV (((v_1 / (2 : Int32)) + (1 : Int32))) (fun i4_2 =>
  if i2 = (1 : Int32) then (
  nmV (i4_2 + (-1 : Int32)) (fun i4_5 =>
  fX1_pay_31 i1 i2 i3 c_floor c_left i4_5))
  else (
  if i2 = (2 : Int32) then (
  fX1_pay_31 i1 i2 i3 c_floor c_left (0 : Int32))
  else (
  fX1_pay_31 i1 i2 i3 c_floor c_left i4_2))))
noncomputable def fX1_settle_17 (i1 : Int32) (i2 : Int32) (i3 : Int32) (c_left : Nat → Int32)  (c_settled : Nat → Int32) (c_floor : Nat → Int32) (t0 : Int32) (t1 : Int32) : Option ((Nat → Int32) × (Nat → Int32)) :=
  if t0 ≤ t1 then (
  some (c_settled, c_floor))
  else (
  wrI 8 c_settled i1 i3 (fun c_settled_2 =>
  wrI 8 c_floor i1 (-1 : Int32) (fun c_floor_3 =>
  some (c_settled_2, c_floor_3))))
noncomputable def fX1_settle (i1 : Int32) (i2 : Int32) (i3 : Int32) (c_left : Nat → Int32) (c_settled : Nat → Int32) (c_floor : Nat → Int32) : Option ((Nat → Int32) × (Nat → Int32)) :=
  rdA 8 c_left i1 (fun v_1 =>
  if i2 = (3 : Int32) then (
  fX1_settle_17 i1 i2 i3 c_left c_settled c_floor (-6 : Int32) v_1)
  else (
  fX1_settle_17 i1 i2 i3 c_left c_settled c_floor (0 : Int32) v_1))
noncomputable def fX1_isAhead (i1 : Int32) (i2 : Int32) (c_left : Nat → Int32) : Option (Int32) :=
  rdA 8 c_left i1 (fun v_1 =>
  rdA 8 c_left i2 (fun v_2 =>
  if v_2 < v_1 then (
  some ((1 : Int32)))
  else (
  rdA 8 c_left i1 (fun v_3 =>
  rdA 8 c_left i2 (fun v_4 =>
  if v_3 = v_4 then (
  if i2 ≤ i1 then (
  some ((0 : Int32)))
  else (
  some ((1 : Int32))))
  else (
  some ((0 : Int32))))))))
noncomputable def fX1_sortByLeft_59 (c_size : Int32) (c_left : Nat → Int32) (q_2 : (Nat → Int32) → Int32 → (Option ((Nat → Int32)))) (c_order : Nat → Int32) (i1 : Int32) (i2 : Int32) (i3 : Int32) : Option ((Nat → Int32)) :=
  wrI 8 c_order i3 i2 (fun c_order_2 =>
  nmV (i1 + (1 : Int32)) (fun i1_3 =>
  q_2 c_order_2 i1_3))
noncomputable def bX1_sortByLeft_19 (c_size : Int32) (c_left : Nat → Int32) (q_2 : (Nat → Int32) → Int32 → (Option ((Nat → Int32)))) (self : (Nat → Int32) → Int32 → Int32 → Int32 → (Option ((Nat → Int32)))) (c_order : Nat → Int32) (i1 : Int32) (i2 : Int32) (i3 : Int32) : Option ((Nat → Int32)) :=
  if i3 ≤ (0 : Int32) then (
  fX1_sortByLeft_59 c_size c_left q_2 c_order i1 i2 i3)
  else (
  rdA 8 c_order (i3 - (1 : Int32)) (fun v_4 =>
  bd1 (fX1_isAhead i2 v_4 c_left) (fun r_5 =>
  if r_5 = (0 : Int32) then (
  fX1_sortByLeft_59 c_size c_left q_2 c_order i1 i2 i3)
  else (
  rdA 8 c_order (i3 - (1 : Int32)) (fun v_6 =>
  wrI 8 c_order i3 v_6 (fun c_order_7 =>
  nmV (i3 + (-1 : Int32)) (fun i3_8 =>
  self c_order_7 i1 i2 i3_8)))))))
noncomputable def fX1_sortByLeft_19 (c_size : Int32) (c_left : Nat → Int32) (q_2 : (Nat → Int32) → Int32 → (Option ((Nat → Int32)))) (n : Nat) : (Nat → Int32) → Int32 → Int32 → Int32 → (Option ((Nat → Int32))) := lpN (fun _ _ _ _ => none) (bX1_sortByLeft_19 c_size c_left q_2) n
noncomputable def bX1_sortByLeft_2 (c_size : Int32) (c_left : Nat → Int32)  (self : (Nat → Int32) → Int32 → (Option ((Nat → Int32)))) (c_order : Nat → Int32) (i1 : Int32) : Option ((Nat → Int32)) :=
  if c_size ≤ i1 then (
  some (c_order))
  else (
  rdA 8 c_order i1 (fun v_1 =>
  fX1_sortByLeft_19 c_size c_left self jF c_order i1 v_1 i1))
noncomputable def fX1_sortByLeft_2 (c_size : Int32) (c_left : Nat → Int32)  (n : Nat) : (Nat → Int32) → Int32 → (Option ((Nat → Int32))) := lpN (fun _ _ => none) (bX1_sortByLeft_2 c_size c_left ) n
noncomputable def fX1_sortByLeft (c_size : Int32) (c_left : Nat → Int32) (c_order : Nat → Int32) : Option ((Nat → Int32)) :=
  fX1_sortByLeft_2 c_size c_left jF c_order (1 : Int32)
noncomputable def fX1_run_97 (i3 : Int32) (i4 : Int32) (c1_size : Int32) (c1_sort : Nat → Int32) (c1_paid : Nat → Int32) (c1_wage : Nat → Int32) (c2_size : Int32) (c2_kind : Nat → Int32) (c2_month : Nat → Int32) (c2_number : Nat → Int32) (q_8 : Int32 → (Nat → Int32) → (Nat → Int32) → (Nat → Int32) → (Nat → Int32) → (Nat → Int32) → (Nat → Int32) → (Nat → Int32) → (Nat → Int32) → (Nat → Int32) → (Nat → Int32) → (Nat → Int32) → Int32 → (Option (Int32 × (Nat → Int32) × (Nat → Int32) × (Nat → Int32) × (Nat → Int32) × (Nat → Int32) × (Nat → Int32) × (Nat → Int32) × (Nat → Int32) × (Nat → Int32) × (Nat → Int32) × (Nat → Int32)))) (q_28 : Int32 → (Nat → Int32) → (Nat → Int32) → (Nat → Int32) → (Nat → Int32) → (Nat → Int32) → (Nat → Int32) → (Nat → Int32) → (Nat → Int32) → (Nat → Int32) → (Nat → Int32) → (Nat → Int32) → Int32 → Int32 → Int32 → (Option (Int32 × (Nat → Int32) × (Nat → Int32) × (Nat → Int32) × (Nat → Int32) × (Nat → Int32) × (Nat → Int32) × (Nat → Int32) × (Nat → Int32) × (Nat → Int32) × (Nat → Int32) × (Nat → Int32)))) (c_size : Int32) (c_settled : Nat → Int32) (c_falls : Nat → Int32) (c_passed : Nat → Int32) (c_floors : Nat → Int32) (c_lefts : Nat → Int32) (c_fallers : Nat → Int32) (c_floor : Nat → Int32) (c_before : Nat → Int32) (c_left : Nat → Int32) (c_order : Nat → Int32) (c_taken : Nat → Int32) (i5 : Int32) (i6 : Int32) (i7 : Int32) : Option (Int32 × (Nat → Int32) × (Nat → Int32) × (Nat → Int32) × (Nat → Int32) × (Nat → Int32) × (Nat → Int32) × (Nat → Int32) × (Nat → Int32) × (Nat → Int32) × (Nat → Int32) × (Nat → Int32)) :=
  nmV (i7 + (1 : Int32)) (fun i7_22 =>
  q_28 c_size c_settled c_falls c_passed c_floors c_lefts c_fallers c_floor c_before c_left c_order c_taken i5 i6 i7_22)
noncomputable def bX1_run_28 (i3 : Int32) (i4 : Int32) (c1_size : Int32) (c1_sort : Nat → Int32) (c1_paid : Nat → Int32) (c1_wage : Nat → Int32) (c2_size : Int32) (c2_kind : Nat → Int32) (c2_month : Nat → Int32) (c2_number : Nat → Int32) (q_8 : Int32 → (Nat → Int32) → (Nat → Int32) → (Nat → Int32) → (Nat → Int32) → (Nat → Int32) → (Nat → Int32) → (Nat → Int32) → (Nat → Int32) → (Nat → Int32) → (Nat → Int32) → (Nat → Int32) → Int32 → (Option (Int32 × (Nat → Int32) × (Nat → Int32) × (Nat → Int32) × (Nat → Int32) × (Nat → Int32) × (Nat → Int32) × (Nat → Int32) × (Nat → Int32) × (Nat → Int32) × (Nat → Int32) × (Nat → Int32)))) (self : Int32 → (Nat → Int32) → (Nat → Int32) → (Nat → Int32) → (Nat → Int32) → (Nat → Int32) → (Nat → Int32) → (Nat → Int32) → (Nat → Int32) → (Nat → Int32) → (Nat → Int32) → (Nat → Int32) → Int32 → Int32 → Int32 → (Option (Int32 × (Nat → Int32) × (Nat → Int32) × (Nat → Int32) × (Nat → Int32) × (Nat → Int32) × (Nat → Int32) × (Nat → Int32) × (Nat → Int32) × (Nat → Int32) × (Nat → Int32) × (Nat → Int32)))) (c_size : Int32) (c_settled : Nat → Int32) (c_falls : Nat → Int32) (c_passed : Nat → Int32) (c_floors : Nat → Int32) (c_lefts : Nat → Int32) (c_fallers : Nat → Int32) (c_floor : Nat → Int32) (c_before : Nat → Int32) (c_left : Nat → Int32) (c_order : Nat → Int32) (c_taken : Nat → Int32) (i5 : Int32) (i6 : Int32) (i7 : Int32) : Option (Int32 × (Nat → Int32) × (Nat → Int32) × (Nat → Int32) × (Nat → Int32) × (Nat → Int32) × (Nat → Int32) × (Nat → Int32) × (Nat → Int32) × (Nat → Int32) × (Nat → Int32) × (Nat → Int32)) :=
  if c_size ≤ i7 then (
  bd1 (fX1_sortByLeft c_size c_left c_order) (fun c_order_10 =>
  bd2 (fX1_giveFloors i4 i6 c_size c_left c_order_10 c_floor c_taken) (fun c_floor_11 c_taken_12 =>
  bd3 (fX1_countFalls i5 c_size c_floor_11 c_before c_falls c_passed c_fallers) (fun c_falls_13 c_passed_14 c_fallers_15 =>
  bd2 (fX1_keep i5 c_size c_floor_11 c_left c_floors c_lefts) (fun c_floors_16 c_lefts_17 =>
  nmV (i5 + (1 : Int32)) (fun i5_18 =>
  q_8 c_size c_settled c_falls_13 c_passed_14 c_floors_16 c_lefts_17 c_fallers_15 c_floor_11 c_before c_left c_order_10 c_taken_12 i5_18))))))
  else (
  rdA 8 c_floor i7 (fun v_19 =>
  wrI 8 c_before i7 v_19 (fun c_before_20 =>
  rdA 8 c_floor i7 (fun v_21 =>
  if v_21 = (-1 : Int32) then (
  fX1_run_97 i3 i4 c1_size c1_sort c1_paid c1_wage c2_size c2_kind c2_month c2_number q_8 self c_size c_settled c_falls c_passed c_floors c_lefts c_fallers c_floor c_before_20 c_left c_order c_taken i5 i6 i7)
  else (
  rdA 8 c1_sort i7 (fun v_23 =>
  rdA 8 c1_wage i7 (fun v_24 =>
  bd1 (fX1_pay i7 v_23 v_24 c_floor c_left) (fun c_left_25 =>
  rdA 8 c1_sort i7 (fun v_26 =>
  bd2 (fX1_settle i7 v_26 i5 c_left_25 c_settled c_floor) (fun c_settled_27 c_floor_28 =>
  fX1_run_97 i3 i4 c1_size c1_sort c1_paid c1_wage c2_size c2_kind c2_month c2_number q_8 self c_size c_settled_27 c_falls c_passed c_floors c_lefts c_fallers c_floor_28 c_before_20 c_left_25 c_order c_taken i5 i6 i7))))))))))
noncomputable def fX1_run_28 (i3 : Int32) (i4 : Int32) (c1_size : Int32) (c1_sort : Nat → Int32) (c1_paid : Nat → Int32) (c1_wage : Nat → Int32) (c2_size : Int32) (c2_kind : Nat → Int32) (c2_month : Nat → Int32) (c2_number : Nat → Int32) (q_8 : Int32 → (Nat → Int32) → (Nat → Int32) → (Nat → Int32) → (Nat → Int32) → (Nat → Int32) → (Nat → Int32) → (Nat → Int32) → (Nat → Int32) → (Nat → Int32) → (Nat → Int32) → (Nat → Int32) → Int32 → (Option (Int32 × (Nat → Int32) × (Nat → Int32) × (Nat → Int32) × (Nat → Int32) × (Nat → Int32) × (Nat → Int32) × (Nat → Int32) × (Nat → Int32) × (Nat → Int32) × (Nat → Int32) × (Nat → Int32)))) (n : Nat) : Int32 → (Nat → Int32) → (Nat → Int32) → (Nat → Int32) → (Nat → Int32) → (Nat → Int32) → (Nat → Int32) → (Nat → Int32) → (Nat → Int32) → (Nat → Int32) → (Nat → Int32) → (Nat → Int32) → Int32 → Int32 → Int32 → (Option (Int32 × (Nat → Int32) × (Nat → Int32) × (Nat → Int32) × (Nat → Int32) × (Nat → Int32) × (Nat → Int32) × (Nat → Int32) × (Nat → Int32) × (Nat → Int32) × (Nat → Int32) × (Nat → Int32))) := lpN (fun _ _ _ _ _ _ _ _ _ _ _ _ _ _ _ => none) (bX1_run_28 i3 i4 c1_size c1_sort c1_paid c1_wage c2_size c2_kind c2_month c2_number q_8) n
noncomputable def bX1_run_8 (i3 : Int32) (i4 : Int32) (c1_size : Int32) (c1_sort : Nat → Int32) (c1_paid : Nat → Int32) (c1_wage : Nat → Int32) (c2_size : Int32) (c2_kind : Nat → Int32) (c2_month : Nat → Int32) (c2_number : Nat → Int32)  (self : Int32 → (Nat → Int32) → (Nat → Int32) → (Nat → Int32) → (Nat → Int32) → (Nat → Int32) → (Nat → Int32) → (Nat → Int32) → (Nat → Int32) → (Nat → Int32) → (Nat → Int32) → (Nat → Int32) → Int32 → (Option (Int32 × (Nat → Int32) × (Nat → Int32) × (Nat → Int32) × (Nat → Int32) × (Nat → Int32) × (Nat → Int32) × (Nat → Int32) × (Nat → Int32) × (Nat → Int32) × (Nat → Int32) × (Nat → Int32)))) (c_size : Int32) (c_settled : Nat → Int32) (c_falls : Nat → Int32) (c_passed : Nat → Int32) (c_floors : Nat → Int32) (c_lefts : Nat → Int32) (c_fallers : Nat → Int32) (c_floor : Nat → Int32) (c_before : Nat → Int32) (c_left : Nat → Int32) (c_order : Nat → Int32) (c_taken : Nat → Int32) (i5 : Int32) : Option (Int32 × (Nat → Int32) × (Nat → Int32) × (Nat → Int32) × (Nat → Int32) × (Nat → Int32) × (Nat → Int32) × (Nat → Int32) × (Nat → Int32) × (Nat → Int32) × (Nat → Int32) × (Nat → Int32)) :=
  if (24 : Int32) ≤ i5 then (
  some (c_size, c_settled, c_falls, c_passed, c_floors, c_lefts, c_fallers, c_floor, c_before, c_left, c_order, c_taken))
  else (
  bd2 (fX1_meetEvents i3 i5 c_size c_floor c2_size c2_kind c2_month c2_number c_left) (fun r_8 c_left_9 =>
  fX1_run_28 i3 i4 c1_size c1_sort c1_paid c1_wage c2_size c2_kind c2_month c2_number self jF c_size c_settled c_falls c_passed c_floors c_lefts c_fallers c_floor c_before c_left_9 c_order c_taken i5 r_8 (0 : Int32)))
noncomputable def fX1_run_8 (i3 : Int32) (i4 : Int32) (c1_size : Int32) (c1_sort : Nat → Int32) (c1_paid : Nat → Int32) (c1_wage : Nat → Int32) (c2_size : Int32) (c2_kind : Nat → Int32) (c2_month : Nat → Int32) (c2_number : Nat → Int32)  (n : Nat) : Int32 → (Nat → Int32) → (Nat → Int32) → (Nat → Int32) → (Nat → Int32) → (Nat → Int32) → (Nat → Int32) → (Nat → Int32) → (Nat → Int32) → (Nat → Int32) → (Nat → Int32) → (Nat → Int32) → Int32 → (Option (Int32 × (Nat → Int32) × (Nat → Int32) × (Nat → Int32) × (Nat → Int32) × (Nat → Int32) × (Nat → Int32) × (Nat → Int32) × (Nat → Int32) × (Nat → Int32) × (Nat → Int32) × (Nat → Int32))) := lpN (fun _ _ _ _ _ _ _ _ _ _ _ _ _ => none) (bX1_run_8 i3 i4 c1_size c1_sort c1_paid c1_wage c2_size c2_kind c2_month c2_number ) n
noncomputable def fX1_run (i3 : Int32) (i4 : Int32) (c1_size : Int32) (c1_sort : Nat → Int32) (c1_paid : Nat → Int32) (c1_wage : Nat → Int32) (c2_size : Int32) (c2_kind : Nat → Int32) (c2_month : Nat → Int32) (c2_number : Nat → Int32) (c_size : Int32) (c_settled : Nat → Int32) (c_falls : Nat → Int32) (c_passed : Nat → Int32) (c_floors : Nat → Int32) (c_lefts : Nat → Int32) (c_fallers : Nat → Int32) (c_floor : Nat → Int32) (c_before : Nat → Int32) (c_left : Nat → Int32) (c_order : Nat → Int32) (c_taken : Nat → Int32) : Option (Int32 × (Nat → Int32) × (Nat → Int32) × (Nat → Int32) × (Nat → Int32) × (Nat → Int32) × (Nat → Int32) × (Nat → Int32) × (Nat → Int32) × (Nat → Int32) × (Nat → Int32) × (Nat → Int32)) :=
  bd7 (fX1_begin c1_size c1_paid c_size c_settled c_falls c_passed c_floor c_left c_order) (fun c_size_1 c_settled_2 c_falls_3 c_passed_4 c_floor_5 c_left_6 c_order_7 =>
  fX1_run_8 i3 i4 c1_size c1_sort c1_paid c1_wage c2_size c2_kind c2_month c2_number jF c_size_1 c_settled_2 c_falls_3 c_passed_4 c_floors c_lefts c_fallers c_floor_5 c_before c_left_6 c_order_7 c_taken (0 : Int32))
noncomputable def fX1_floorAt (i1 : Int32) (i2 : Int32) (c_floors : Nat → Int32) : Option (Int32) :=
  rdA 192 c_floors ((i1 * (8 : Int32)) + i2) (fun v_1 =>
  some (v_1))
noncomputable def fX1_leftAt (i1 : Int32) (i2 : Int32) (c_lefts : Nat → Int32) : Option (Int32) :=
  rdA 192 c_lefts ((i1 * (8 : Int32)) + i2) (fun v_1 =>
  some (v_1))
noncomputable def fX1_owes (i1 : Int32) (i2 : Int32) (c_floors : Nat → Int32) (c_lefts : Nat → Int32) : Option (Int32) :=
  bd1 (fX1_floorAt i1 i2 c_floors) (fun r_1 =>
  bd1 (fX1_leftAt i1 i2 c_lefts) (fun r_2 =>
  if r_1 ≤ ((if (0 : Int32) < r_2 then r_2 else (0 : Int32)) / (3 : Int32)) then (
  some ((0 : Int32)))
  else (
  some ((1 : Int32)))))
noncomputable def fX1_fellIn (i1 : Int32) (i2 : Int32) (c_fallers : Nat → Int32) : Option (Int32) :=
  rdA 24 c_fallers i1 (fun v_1 =>
  if ((v_1 >>> (i2 &&& (31 : Int32))) &&& (1 : Int32)) = (0 : Int32) then (
  some ((0 : Int32)))
  else (
  some ((1 : Int32))))
noncomputable def fX1_whoLives_32 (i1 : Int32) (i2 : Int32) (c_size : Int32) (c_floors : Nat → Int32) (q_5 : Int32 → Int32 → Option (Int32)) (i3 : Int32) (i4 : Int32) : Option (Int32) :=
  nmV (i4 + (1 : Int32)) (fun i4_2 =>
  q_5 i3 i4_2)
noncomputable def bX1_whoLives_5 (i1 : Int32) (i2 : Int32) (c_size : Int32) (c_floors : Nat → Int32)  (self : Int32 → Int32 → Option (Int32)) (i3 : Int32) (i4 : Int32) : Option (Int32) :=
  if c_size ≤ i4 then (
  some (i3))
  else (
  bd1 (fX1_floorAt i1 i4 c_floors) (fun r_1 =>
  if r_1 = i2 then (
  nmV ((i3 ||| ((1 : Int32) <<< (i4 &&& (31 : Int32))))) (fun i3_3 =>
  fX1_whoLives_32 i1 i2 c_size c_floors self i3_3 i4))
  else (
  fX1_whoLives_32 i1 i2 c_size c_floors self i3 i4)))
noncomputable def fX1_whoLives_5 (i1 : Int32) (i2 : Int32) (c_size : Int32) (c_floors : Nat → Int32)  (n : Nat) : Int32 → Int32 → Option (Int32) := lpN (fun _ _ => none) (bX1_whoLives_5 i1 i2 c_size c_floors ) n
noncomputable def fX1_whoLives (i1 : Int32) (i2 : Int32) (c_size : Int32) (c_floors : Nat → Int32) : Option (Int32) :=
  fX1_whoLives_5 i1 i2 c_size c_floors jF (0 : Int32) (0 : Int32)
noncomputable def fX1_liftStops_58 (i1 : Int32) (c_size : Int32) (c_floors : Nat → Int32) (c_lefts : Nat → Int32) (q_7 : Int32 → Int32 → Int32 → Option (Int32)) (i2 : Int32) (i3 : Int32) (i4 : Int32) : Option (Int32) :=
  nmV (i4 + (1 : Int32)) (fun i4_2 =>
  q_7 i2 i3 i4_2)
noncomputable def fX1_liftStops_56 (i1 : Int32) (c_size : Int32) (c_floors : Nat → Int32) (c_lefts : Nat → Int32) (q_7 : Int32 → Int32 → Int32 → Option (Int32)) (i2 : Int32) (i4 : Int32) (t0 : Int32) (t1 : Int32) : Option (Int32) :=
  nmV ((t1 ||| t0)) (fun i3_5 =>
  fX1_liftStops_58 i1 c_size c_floors c_lefts q_7 i2 i3_5 i4)
noncomputable def bX1_liftStops_7 (i1 : Int32) (c_size : Int32) (c_floors : Nat → Int32) (c_lefts : Nat → Int32)  (self : Int32 → Int32 → Int32 → Option (Int32)) (i2 : Int32) (i3 : Int32) (i4 : Int32) : Option (Int32) :=
  if c_size ≤ i4 then (
  some ((i2 &&& (i3 ^^^ (-1 : Int32)))))
  else (
  bd1 (fX1_floorAt i1 i4 c_floors) (fun r_1 =>
  if r_1 ≤ (0 : Int32) then (
  fX1_liftStops_58 i1 c_size c_floors c_lefts self i2 i3 i4)
  else (
  nmV ((i2 ||| ((1 : Int32) <<< (r_1 &&& (31 : Int32))))) (fun i2_3 =>
  bd1 (fX1_owes i1 i4 c_floors c_lefts) (fun r_4 =>
  if r_4 = (0 : Int32) then (
  fX1_liftStops_56 i1 c_size c_floors c_lefts self i2_3 i4 (0 : Int32) i3)
  else (
  fX1_liftStops_56 i1 c_size c_floors c_lefts self i2_3 i4 ((1 : Int32) <<< (r_1 &&& (31 : Int32))) i3))))))
noncomputable def fX1_liftStops_7 (i1 : Int32) (c_size : Int32) (c_floors : Nat → Int32) (c_lefts : Nat → Int32)  (n : Nat) : Int32 → Int32 → Int32 → Option (Int32) := lpN (fun _ _ _ => none) (bX1_liftStops_7 i1 c_size c_floors c_lefts ) n
noncomputable def fX1_liftStops (i1 : Int32) (c_size : Int32) (c_floors : Nat → Int32) (c_lefts : Nat → Int32) : Option (Int32) :=
  fX1_liftStops_7 i1 c_size c_floors c_lefts jF (0 : Int32) (0 : Int32) (0 : Int32)
noncomputable def bX1_view_4 (i1 : Int32) (c_size : Int32) (c_floors : Nat → Int32)  (self : Int32 → Int32 → Option (Int32)) (i2 : Int32) (i3 : Int32) : Option (Int32) :=
  if c_size ≤ i3 then (
  some (i2))
  else (
  bd1 (fX1_floorAt i1 i3 c_floors) (fun r_1 =>
  nmV (((i2 <<< ((4 : Int32) &&& (31 : Int32))) ||| (r_1 - (-1 : Int32)))) (fun i2_2 =>
  nmV (i3 + (1 : Int32)) (fun i3_3 =>
  self i2_2 i3_3))))
noncomputable def fX1_view_4 (i1 : Int32) (c_size : Int32) (c_floors : Nat → Int32)  (n : Nat) : Int32 → Int32 → Option (Int32) := lpN (fun _ _ => none) (bX1_view_4 i1 c_size c_floors ) n
noncomputable def fX1_view (i1 : Int32) (c_size : Int32) (c_floors : Nat → Int32) : Option (Int32) :=
  fX1_view_4 i1 c_size c_floors jF (0 : Int32) (0 : Int32)
noncomputable def bX1_highestOf_4 (i1 : Int32) (c_floors : Nat → Int32)  (self : Int32 → Int32 → Option (Int32)) (i2 : Int32) (i3 : Int32) : Option (Int32) :=
  if (24 : Int32) ≤ i3 then (
  some (i2))
  else (
  bd1 (fX1_floorAt i3 i1 c_floors) (fun r_1 =>
  nmV ((if i2 < r_1 then r_1 else i2)) (fun i2_2 =>
  nmV (i3 + (1 : Int32)) (fun i3_3 =>
  self i2_2 i3_3))))
noncomputable def fX1_highestOf_4 (i1 : Int32) (c_floors : Nat → Int32)  (n : Nat) : Int32 → Int32 → Option (Int32) := lpN (fun _ _ => none) (bX1_highestOf_4 i1 c_floors ) n
noncomputable def fX1_highestOf (i1 : Int32) (c_floors : Nat → Int32) : Option (Int32) :=
  fX1_highestOf_4 i1 c_floors jF (-1 : Int32) (0 : Int32)
noncomputable def fX1_settledBits_28 (c_size : Int32) (c_settled : Nat → Int32) (q_4 : Int32 → Int32 → Option (Int32)) (i1 : Int32) (i2 : Int32) : Option (Int32) :=
  nmV (i2 + (1 : Int32)) (fun i2_2 =>
  q_4 i1 i2_2)
noncomputable def bX1_settledBits_4 (c_size : Int32) (c_settled : Nat → Int32)  (self : Int32 → Int32 → Option (Int32)) (i1 : Int32) (i2 : Int32) : Option (Int32) :=
  if c_size ≤ i2 then (
  some (i1))
  else (
  rdA 8 c_settled i2 (fun v_1 =>
  if v_1 = (-1 : Int32) then (
  fX1_settledBits_28 c_size c_settled self i1 i2)
  else (
  nmV ((i1 ||| ((1 : Int32) <<< (i2 &&& (31 : Int32))))) (fun i1_3 =>
  fX1_settledBits_28 c_size c_settled self i1_3 i2))))
noncomputable def fX1_settledBits_4 (c_size : Int32) (c_settled : Nat → Int32)  (n : Nat) : Int32 → Int32 → Option (Int32) := lpN (fun _ _ => none) (bX1_settledBits_4 c_size c_settled ) n
noncomputable def fX1_settledBits (c_size : Int32) (c_settled : Nat → Int32) : Option (Int32) :=
  fX1_settledBits_4 c_size c_settled jF (0 : Int32) (0 : Int32)
noncomputable def fJ6_bitCount_0f7a4 (i0 : Int32) : Option (Int32) :=
  nmV ((i0 - ((UInt32.toInt32 (Int32.toUInt32 i0 >>> (Int32.toUInt32 (1 : Int32) &&& Int32.toUInt32 31))) &&& (1431655765 : Int32)))) (fun i0_1 =>
  nmV (((i0_1 &&& (858993459 : Int32)) + ((UInt32.toInt32 (Int32.toUInt32 i0_1 >>> (Int32.toUInt32 (2 : Int32) &&& Int32.toUInt32 31))) &&& (858993459 : Int32)))) (fun i0_2 =>
  nmV (((i0_2 + (UInt32.toInt32 (Int32.toUInt32 i0_2 >>> (Int32.toUInt32 (4 : Int32) &&& Int32.toUInt32 31)))) &&& (252645135 : Int32))) (fun i0_3 =>
  nmV ((i0_3 + (UInt32.toInt32 (Int32.toUInt32 i0_3 >>> (Int32.toUInt32 (8 : Int32) &&& Int32.toUInt32 31))))) (fun i0_4 =>
  nmV ((i0_4 + (UInt32.toInt32 (Int32.toUInt32 i0_4 >>> (Int32.toUInt32 (16 : Int32) &&& Int32.toUInt32 31))))) (fun i0_5 =>
  some ((i0_5 &&& (63 : Int32))))))))
noncomputable def fX1_settledInAll (c_size : Int32) (c_settled : Nat → Int32) : Option (Int32) :=
  bd1 (fX1_settledBits c_size c_settled) (fun r_1 =>
  bd1 (fJ6_bitCount_0f7a4 r_1) (fun r_2 =>
  some (r_2)))
noncomputable def bX1_fallsInAll_4 (c_size : Int32) (c_falls : Nat → Int32)  (self : Int32 → Int32 → Option (Int32)) (i1 : Int32) (i2 : Int32) : Option (Int32) :=
  if c_size ≤ i2 then (
  some (i1))
  else (
  rdA 8 c_falls i2 (fun v_1 =>
  nmV ((i1 + v_1)) (fun i1_2 =>
  nmV (i2 + (1 : Int32)) (fun i2_3 =>
  self i1_2 i2_3))))
noncomputable def fX1_fallsInAll_4 (c_size : Int32) (c_falls : Nat → Int32)  (n : Nat) : Int32 → Int32 → Option (Int32) := lpN (fun _ _ => none) (bX1_fallsInAll_4 c_size c_falls ) n
noncomputable def fX1_fallsInAll (c_size : Int32) (c_falls : Nat → Int32) : Option (Int32) :=
  fX1_fallsInAll_4 c_size c_falls jF (0 : Int32) (0 : Int32)
noncomputable def bX1_passedInAll_4 (c_size : Int32) (c_passed : Nat → Int32)  (self : Int32 → Int32 → Option (Int32)) (i1 : Int32) (i2 : Int32) : Option (Int32) :=
  if c_size ≤ i2 then (
  some (i1))
  else (
  rdA 8 c_passed i2 (fun v_1 =>
  nmV ((i1 + v_1)) (fun i1_2 =>
  nmV (i2 + (1 : Int32)) (fun i2_3 =>
  self i1_2 i2_3))))
noncomputable def fX1_passedInAll_4 (c_size : Int32) (c_passed : Nat → Int32)  (n : Nat) : Int32 → Int32 → Option (Int32) := lpN (fun _ _ => none) (bX1_passedInAll_4 c_size c_passed ) n
noncomputable def fX1_passedInAll (c_size : Int32) (c_passed : Nat → Int32) : Option (Int32) :=
  fX1_passedInAll_4 c_size c_passed jF (0 : Int32) (0 : Int32)
noncomputable def fX1_owedInAll_35 (c_size : Int32) (c_floors : Nat → Int32) (c_lefts : Nat → Int32) (q_4 : Int32 → Int32 → Option (Int32)) (q_12 : Int32 → Int32 → Int32 → Option (Int32)) (i2 : Int32) (i3 : Int32) (t0 : Int32) (t1 : Int32) : Option (Int32) :=
  nmV ((t1 + t0)) (fun i1_3 =>
  nmV (i3 + (1 : Int32)) (fun i3_4 =>
  q_12 i1_3 i2 i3_4))
noncomputable def bX1_owedInAll_12 (c_size : Int32) (c_floors : Nat → Int32) (c_lefts : Nat → Int32) (q_4 : Int32 → Int32 → Option (Int32)) (self : Int32 → Int32 → Int32 → Option (Int32)) (i1 : Int32) (i2 : Int32) (i3 : Int32) : Option (Int32) :=
  if c_size ≤ i3 then (
  nmV (i2 + (1 : Int32)) (fun i2_1 =>
  q_4 i1 i2_1))
  else (
  bd1 (fX1_owes i2 i3 c_floors c_lefts) (fun r_2 =>
  if r_2 = (0 : Int32) then (
  fX1_owedInAll_35 c_size c_floors c_lefts q_4 self i2 i3 (0 : Int32) i1)
  else (
  fX1_owedInAll_35 c_size c_floors c_lefts q_4 self i2 i3 (1 : Int32) i1)))
noncomputable def fX1_owedInAll_12 (c_size : Int32) (c_floors : Nat → Int32) (c_lefts : Nat → Int32) (q_4 : Int32 → Int32 → Option (Int32)) (n : Nat) : Int32 → Int32 → Int32 → Option (Int32) := lpN (fun _ _ _ => none) (bX1_owedInAll_12 c_size c_floors c_lefts q_4) n
noncomputable def bX1_owedInAll_4 (c_size : Int32) (c_floors : Nat → Int32) (c_lefts : Nat → Int32)  (self : Int32 → Int32 → Option (Int32)) (i1 : Int32) (i2 : Int32) : Option (Int32) :=
  if (24 : Int32) ≤ i2 then (
  some (i1))
  else (
  fX1_owedInAll_12 c_size c_floors c_lefts self jF i1 i2 (0 : Int32))
noncomputable def fX1_owedInAll_4 (c_size : Int32) (c_floors : Nat → Int32) (c_lefts : Nat → Int32)  (n : Nat) : Int32 → Int32 → Option (Int32) := lpN (fun _ _ => none) (bX1_owedInAll_4 c_size c_floors c_lefts ) n
noncomputable def fX1_owedInAll (c_size : Int32) (c_floors : Nat → Int32) (c_lefts : Nat → Int32) : Option (Int32) :=
  fX1_owedInAll_4 c_size c_floors c_lefts jF (0 : Int32) (0 : Int32)
noncomputable def fX1_topTenant_35 (c_size : Int32) (c_floors : Nat → Int32) (q_6 : Int32 → Int32 → Int32 → Option (Int32)) (i1 : Int32) (i2 : Int32) (i3 : Int32) : Option (Int32) :=
  nmV (i3 + (1 : Int32)) (fun i3_2 =>
  q_6 i1 i2 i3_2)
noncomputable def bX1_topTenant_6 (c_size : Int32) (c_floors : Nat → Int32)  (self : Int32 → Int32 → Int32 → Option (Int32)) (i1 : Int32) (i2 : Int32) (i3 : Int32) : Option (Int32) :=
  if c_size ≤ i3 then (
  some (i1))
  else (
  bd1 (fX1_floorAt (23 : Int32) i3 c_floors) (fun r_1 =>
  if r_1 ≤ i2 then (
  fX1_topTenant_35 c_size c_floors self i1 i2 i3)
  else (
  bd1 (fX1_floorAt (23 : Int32) i3 c_floors) (fun r_3 =>
  fX1_topTenant_35 c_size c_floors self i3 r_3 i3))))
noncomputable def fX1_topTenant_6 (c_size : Int32) (c_floors : Nat → Int32)  (n : Nat) : Int32 → Int32 → Int32 → Option (Int32) := lpN (fun _ _ _ => none) (bX1_topTenant_6 c_size c_floors ) n
noncomputable def fX1_topTenant (c_size : Int32) (c_floors : Nat → Int32) : Option (Int32) :=
  fX1_topTenant_6 c_size c_floors jF (-1 : Int32) (-1 : Int32) (0 : Int32)
noncomputable def fX1_heardFloors_94 (c_size : Int32) (c_floors : Nat → Int32) (q_64 : Int32 → Int32 → Int32 → Int32 → Option (Int32)) (i1 : Int32) (i2 : Int32) (i3 : Int32) (i4 : Int32) : Option (Int32) :=
  nmV (i4 + (-1 : Int32)) (fun i4_1 =>
  q_64 i1 i2 i3 i4_1)
noncomputable def bX1_heardFloors_64 (c_size : Int32) (c_floors : Nat → Int32)  (self : Int32 → Int32 → Int32 → Int32 → Option (Int32)) (i1 : Int32) (i2 : Int32) (i3 : Int32) (i4 : Int32) : Option (Int32) :=
  if i4 ≤ (0 : Int32) then (
  some (i2))
  else (
  if ((i1 >>> (i4 &&& (31 : Int32))) &&& (1 : Int32)) = (0 : Int32) then (
  if i3 = (0 : Int32) then (
  fX1_heardFloors_94 c_size c_floors self i1 i2 i3 i4)
  else (
  nmV ((i2 ||| ((1 : Int32) <<< (i4 &&& (31 : Int32))))) (fun i2_2 =>
  fX1_heardFloors_94 c_size c_floors self i1 i2_2 i3 i4)))
  else (
  fX1_heardFloors_94 c_size c_floors self i1 i2 (1 : Int32) i4))
noncomputable def fX1_heardFloors_64 (c_size : Int32) (c_floors : Nat → Int32)  (n : Nat) : Int32 → Int32 → Int32 → Int32 → Option (Int32) := lpN (fun _ _ _ _ => none) (bX1_heardFloors_64 c_size c_floors ) n
noncomputable def fX1_heardFloors_42 (c_size : Int32) (c_floors : Nat → Int32) (q_4 : Int32 → Int32 → Option (Int32)) (q_12 : Int32 → Int32 → Int32 → Option (Int32)) (i2 : Int32) (i3 : Int32) (t0 : Int32) (t1 : Int32) : Option (Int32) :=
  nmV ((t1 ||| t0)) (fun i1_5 =>
  nmV (i3 + (1 : Int32)) (fun i3_6 =>
  q_12 i1_5 i2 i3_6))
noncomputable def bX1_heardFloors_12 (c_size : Int32) (c_floors : Nat → Int32) (q_4 : Int32 → Int32 → Option (Int32)) (self : Int32 → Int32 → Int32 → Option (Int32)) (i1 : Int32) (i2 : Int32) (i3 : Int32) : Option (Int32) :=
  if c_size ≤ i3 then (
  nmV (i2 + (1 : Int32)) (fun i2_3 =>
  q_4 i1 i2_3))
  else (
  bd1 (fX1_floorAt i2 i3 c_floors) (fun r_4 =>
  if r_4 ≤ (0 : Int32) then (
  fX1_heardFloors_42 c_size c_floors q_4 self i2 i3 (0 : Int32) i1)
  else (
  fX1_heardFloors_42 c_size c_floors q_4 self i2 i3 ((1 : Int32) <<< (r_4 &&& (31 : Int32))) i1)))
noncomputable def fX1_heardFloors_12 (c_size : Int32) (c_floors : Nat → Int32) (q_4 : Int32 → Int32 → Option (Int32)) (n : Nat) : Int32 → Int32 → Int32 → Option (Int32) := lpN (fun _ _ _ => none) (bX1_heardFloors_12 c_size c_floors q_4) n
noncomputable def bX1_heardFloors_4 (c_size : Int32) (c_floors : Nat → Int32)  (self : Int32 → Int32 → Option (Int32)) (i1 : Int32) (i2 : Int32) : Option (Int32) :=
  if (24 : Int32) ≤ i2 then (
  fX1_heardFloors_64 c_size c_floors jF i1 (0 : Int32) (0 : Int32) (12 : Int32))
  else (
  fX1_heardFloors_12 c_size c_floors self jF i1 i2 (0 : Int32))
noncomputable def fX1_heardFloors_4 (c_size : Int32) (c_floors : Nat → Int32)  (n : Nat) : Int32 → Int32 → Option (Int32) := lpN (fun _ _ => none) (bX1_heardFloors_4 c_size c_floors ) n
noncomputable def fX1_heardFloors (c_size : Int32) (c_floors : Nat → Int32) : Option (Int32) :=
  fX1_heardFloors_4 c_size c_floors jF (0 : Int32) (0 : Int32)
noncomputable def fX1_housedAtLast_28 (c_size : Int32) (c_floors : Nat → Int32) (q_4 : Int32 → Int32 → Option (Int32)) (i2 : Int32) (t0 : Int32) (t1 : Int32) : Option (Int32) :=
  nmV ((t1 + t0)) (fun i1_2 =>
  nmV (i2 + (1 : Int32)) (fun i2_3 =>
  q_4 i1_2 i2_3))
noncomputable def bX1_housedAtLast_4 (c_size : Int32) (c_floors : Nat → Int32)  (self : Int32 → Int32 → Option (Int32)) (i1 : Int32) (i2 : Int32) : Option (Int32) :=
  if c_size ≤ i2 then (
  some (i1))
  else (
  bd1 (fX1_floorAt (23 : Int32) i2 c_floors) (fun r_1 =>
  if r_1 ≤ (0 : Int32) then (
  fX1_housedAtLast_28 c_size c_floors self i2 (0 : Int32) i1)
  else (
  fX1_housedAtLast_28 c_size c_floors self i2 (1 : Int32) i1)))
noncomputable def fX1_housedAtLast_4 (c_size : Int32) (c_floors : Nat → Int32)  (n : Nat) : Int32 → Int32 → Option (Int32) := lpN (fun _ _ => none) (bX1_housedAtLast_4 c_size c_floors ) n
noncomputable def fX1_housedAtLast (c_size : Int32) (c_floors : Nat → Int32) : Option (Int32) :=
  fX1_housedAtLast_4 c_size c_floors jF (0 : Int32) (0 : Int32)
noncomputable def fX7_within (i0 : Int32) (i1 : Int32) (i2 : Int32) : Option (Int32) :=
  if i0 < i1 then (
  some ((0 : Int32)))
  else (
  if i2 < i0 then (
  some ((0 : Int32)))
  else (
  some ((1 : Int32))))
noncomputable def fX7_isMonth (i0 : Int32) : Option (Int32) :=
  bd1 (fX7_within i0 (0 : Int32) (23 : Int32)) (fun r_1 =>
  ckB r_1 (
  some (r_1)))
noncomputable def fX2_canBe (i0 : Int32) (i1 : Int32) (i2 : Int32) : Option (Int32) :=
  bd1 (fX7_within i0 (0 : Int32) (2 : Int32)) (fun r_1 =>
  if r_1 = (0 : Int32) then (
  some ((0 : Int32)))
  else (
  bd1 (fX7_isMonth i1) (fun r_2 =>
  if r_2 = (0 : Int32) then (
  some ((0 : Int32)))
  else (
  bd1 (fX7_within i2 (0 : Int32) (7 : Int32)) (fun r_3 =>
  if r_3 = (0 : Int32) then (
  some ((0 : Int32)))
  else (
  some ((1 : Int32))))))))
noncomputable def fX2_add (i1 : Int32) (i2 : Int32) (i3 : Int32) (c_size : Int32) (c_kind : Nat → Int32) (c_month : Nat → Int32) (c_number : Nat → Int32) : Option (Int32 × (Nat → Int32) × (Nat → Int32) × (Nat → Int32)) :=
  wrI 8 c_kind c_size i1 (fun c_kind_1 =>
  wrI 8 c_month c_size i2 (fun c_month_2 =>
  wrI 8 c_number c_size i3 (fun c_number_3 =>
  nmV ((c_size + (1 : Int32))) (fun c_size_4 =>
  some (c_size_4, c_kind_1, c_month_2, c_number_3)))))
noncomputable def fX3_add (i1 : Int32) (i2 : Int32) (i3 : Int32) (c_size : Int32) (c_month : Nat → Int32) (c_tenant : Nat → Int32) (c_floor : Nat → Int32) : Option (Int32 × (Nat → Int32) × (Nat → Int32) × (Nat → Int32)) :=
  wrI 8 c_month c_size i1 (fun c_month_1 =>
  wrI 8 c_tenant c_size i2 (fun c_tenant_2 =>
  wrI 8 c_floor c_size i3 (fun c_floor_3 =>
  nmV ((c_size + (1 : Int32))) (fun c_size_4 =>
  some (c_size_4, c_month_1, c_tenant_2, c_floor_3)))))
noncomputable def bX3_comesOut_2 (c_size : Int32) (c_month : Nat → Int32) (c_tenant : Nat → Int32) (c_floor : Nat → Int32) (c1_size : Int32) (c1_floors : Nat → Int32)  (self : Int32 → Option (Int32)) (i2 : Int32) : Option (Int32) :=
  if c_size ≤ i2 then (
  some ((1 : Int32)))
  else (
  rdA 8 c_tenant i2 (fun v_1 =>
  if c1_size ≤ v_1 then (
  some ((0 : Int32)))
  else (
  rdA 8 c_month i2 (fun v_2 =>
  rdA 8 c_tenant i2 (fun v_3 =>
  bd1 (fX1_floorAt v_2 v_3 c1_floors) (fun r_4 =>
  rdA 8 c_floor i2 (fun v_5 =>
  if r_4 = v_5 then (
  nmV (i2 + (1 : Int32)) (fun i2_6 =>
  self i2_6))
  else (
  some ((0 : Int32))))))))))
noncomputable def fX3_comesOut_2 (c_size : Int32) (c_month : Nat → Int32) (c_tenant : Nat → Int32) (c_floor : Nat → Int32) (c1_size : Int32) (c1_floors : Nat → Int32)  (n : Nat) : Int32 → Option (Int32) := lpN (fun _ => none) (bX3_comesOut_2 c_size c_month c_tenant c_floor c1_size c1_floors ) n
noncomputable def fX3_comesOut (c_size : Int32) (c_month : Nat → Int32) (c_tenant : Nat → Int32) (c_floor : Nat → Int32) (c1_size : Int32) (c1_floors : Nat → Int32) : Option (Int32) :=
  fX3_comesOut_2 c_size c_month c_tenant c_floor c1_size c1_floors jF (0 : Int32)
noncomputable def fX4_renew (i1 : Int32) (i2 : Int32) (c_form : Int32) (c_size : Int32) (c_lost : Int32) (c_items : Nat → Int32) : Option (Int32 × Int32 × Int32 × (Nat → Int32)) :=
  bd1 (fJ7_fill_53178 (0 : Int32) 60 c_items) (fun c_items_1 =>
  some (i1, i2, (0 : Int32), c_items_1))
noncomputable def fX4_flaw (i1 : Int32) (i2 : Int32) (c_form : Int32) (c_size : Int32) (c_lost : Int32) : Option (Int32) :=
  if c_lost = (0 : Int32) then (
  if c_form = i1 then (
  if i2 < (0 : Int32) then (
  some ((2 : Int32)))
  else (
  if i2 < c_size then (
  some ((0 : Int32)))
  else (
  some ((2 : Int32)))))
  else (
  some ((3 : Int32))))
  else (
  some ((1 : Int32)))
noncomputable def fX4_hasSpan (i1 : Int32) (i2 : Int32) (c_size : Int32) : Option (Int32) :=
  if i1 < (0 : Int32) then (
  some ((0 : Int32)))
  else (
  if i2 < (0 : Int32) then (
  some ((0 : Int32)))
  else (
  if c_size < i1 then (
  some ((0 : Int32)))
  else (
  if (c_size - i1) < i2 then (
  some ((0 : Int32)))
  else (
  some ((1 : Int32))))))
noncomputable def fX4_put (i1 : Int32) (i2 : Int32) (c_form : Int32) (c_items : Nat → Int32) : Option ((Nat → Int32)) :=
  if c_form = (0 : Int32) then (
  wrI 60 c_items i1 (Int8.toInt32 (Int32.toInt8 i2)) (fun c_items_3 =>
  some (c_items_3)))
  else (
  if c_form = (1 : Int32) then (
  wrI 60 c_items i1 (Int16.toInt32 (Int32.toInt16 i2)) (fun c_items_2 =>
  some (c_items_2)))
  else (
  wrI 60 c_items i1 i2 (fun c_items_1 =>
  some (c_items_1))))
noncomputable def fX6_sortOf (i0 : Int32) : Option (Int32) :=
  if i0 = (99 : Int32) then (
  some ((2 : Int32)))
  else (
  if i0 = (111 : Int32) then (
  some ((0 : Int32)))
  else (
  if i0 = (112 : Int32) then (
  some ((1 : Int32)))
  else (
  if i0 = (114 : Int32) then (
  some ((3 : Int32)))
  else (
  some ((-1 : Int32))))))
noncomputable def fX6_goesOn (i0 : Int32) (i1 : Int32) : Option (Int32) :=
  if i0 = (0 : Int32) then (
  bd1 (fX6_sortOf i1) (fun r_1 =>
  if r_1 = (-1 : Int32) then (
  some ((0 : Int32)))
  else (
  some ((1 : Int32)))))
  else (
  if i0 = (3 : Int32) then (
  if i1 = (59 : Int32) then (
  some ((1 : Int32)))
  else (
  some ((0 : Int32))))
  else (
  if i1 < (48 : Int32) then (
  some ((0 : Int32)))
  else (
  if (57 : Int32) < i1 then (
  some ((0 : Int32)))
  else (
  some ((1 : Int32))))))
noncomputable def bX6_faultPlace_2 (c_size : Int32) (c_bytes : Nat → Int32)  (self : Int32 → Option (Int32)) (i1 : Int32) : Option (Int32) :=
  if c_size ≤ i1 then (
  if c_size = (0 : Int32) then (
  some ((-1 : Int32)))
  else (
  if (c_size - c_size / (4 : Int32) * (4 : Int32)) = (3 : Int32) then (
  some ((-1 : Int32)))
  else (
  some (c_size))))
  else (
  if (8 : Int32) ≤ (i1 / (4 : Int32)) then (
  some (i1))
  else (
  rdA 31 c_bytes i1 (fun v_1 =>
  bd1 (fX6_goesOn (i1 - i1 / (4 : Int32) * (4 : Int32)) v_1) (fun r_2 =>
  if r_2 = (0 : Int32) then (
  some (i1))
  else (
  nmV (i1 + (1 : Int32)) (fun i1_3 =>
  self i1_3))))))
noncomputable def fX6_faultPlace_2 (c_size : Int32) (c_bytes : Nat → Int32)  (n : Nat) : Int32 → Option (Int32) := lpN (fun _ => none) (bX6_faultPlace_2 c_size c_bytes ) n
noncomputable def fX6_faultPlace (c_size : Int32) (c_bytes : Nat → Int32) : Option (Int32) :=
  fX6_faultPlace_2 c_size c_bytes jF (0 : Int32)
noncomputable def bX5_takeFrom_16 (c1_size : Int32) (c1_bytes : Nat → Int32)  (self : Int32 → (Nat → Int32) → (Nat → Int32) → (Nat → Int32) → Int32 → (Option (Int32 × (Nat → Int32) × (Nat → Int32) × (Nat → Int32)))) (c_size : Int32) (c_sort : Nat → Int32) (c_paid : Nat → Int32) (c_wage : Nat → Int32) (i2 : Int32) : Option (Int32 × (Nat → Int32) × (Nat → Int32) × (Nat → Int32)) :=
  if c1_size ≤ (i2 + (2 : Int32)) then (
  some (c_size, c_sort, c_paid, c_wage))
  else (
  if (8 : Int32) ≤ c_size then (
  some (c_size, c_sort, c_paid, c_wage))
  else (
  rdA 31 c1_bytes i2 (fun v_2 =>
  bd1 (fX6_sortOf v_2) (fun r_3 =>
  wrI 8 c_sort c_size r_3 (fun c_sort_4 =>
  rdA 31 c1_bytes (i2 + (1 : Int32)) (fun v_5 =>
  wrI 8 c_paid c_size (v_5 - (48 : Int32)) (fun c_paid_6 =>
  rdA 31 c1_bytes (i2 + (2 : Int32)) (fun v_7 =>
  wrI 8 c_wage c_size (v_7 - (48 : Int32)) (fun c_wage_8 =>
  nmV ((c_size + (1 : Int32))) (fun c_size_9 =>
  nmV (i2 + (4 : Int32)) (fun i2_10 =>
  self c_size_9 c_sort_4 c_paid_6 c_wage_8 i2_10)))))))))))
noncomputable def fX5_takeFrom_16 (c1_size : Int32) (c1_bytes : Nat → Int32)  (n : Nat) : Int32 → (Nat → Int32) → (Nat → Int32) → (Nat → Int32) → Int32 → (Option (Int32 × (Nat → Int32) × (Nat → Int32) × (Nat → Int32))) := lpN (fun _ _ _ _ _ => none) (bX5_takeFrom_16 c1_size c1_bytes ) n
noncomputable def fX5_takeFrom (c1_size : Int32) (c1_bytes : Nat → Int32) (c_size : Int32) (c_sort : Nat → Int32) (c_paid : Nat → Int32) (c_wage : Nat → Int32) : Option (Int32 × (Nat → Int32) × (Nat → Int32) × (Nat → Int32)) :=
  bd1 (fX6_faultPlace c1_size c1_bytes) (fun r_1 =>
  if r_1 = (-1 : Int32) then (
  fX5_takeFrom_16 c1_size c1_bytes jF (0 : Int32) c_sort c_paid c_wage (0 : Int32))
  else (
  some ((0 : Int32), c_sort, c_paid, c_wage)))
noncomputable def bX5_copyOf_10 (c1_size : Int32) (c1_sort : Nat → Int32) (c1_paid : Nat → Int32) (c1_wage : Nat → Int32)  (self : Int32 → (Nat → Int32) → (Nat → Int32) → (Nat → Int32) → Int32 → (Option (Int32 × (Nat → Int32) × (Nat → Int32) × (Nat → Int32)))) (c_size : Int32) (c_sort : Nat → Int32) (c_paid : Nat → Int32) (c_wage : Nat → Int32) (i2 : Int32) : Option (Int32 × (Nat → Int32) × (Nat → Int32) × (Nat → Int32)) :=
  if (8 : Int32) ≤ i2 then (
  some (c_size, c_sort, c_paid, c_wage))
  else (
  rdA 8 c1_sort i2 (fun v_1 =>
  wrI 8 c_sort i2 v_1 (fun c_sort_2 =>
  rdA 8 c1_paid i2 (fun v_3 =>
  wrI 8 c_paid i2 v_3 (fun c_paid_4 =>
  rdA 8 c1_wage i2 (fun v_5 =>
  wrI 8 c_wage i2 v_5 (fun c_wage_6 =>
  nmV (i2 + (1 : Int32)) (fun i2_7 =>
  self c_size c_sort_2 c_paid_4 c_wage_6 i2_7))))))))
noncomputable def fX5_copyOf_10 (c1_size : Int32) (c1_sort : Nat → Int32) (c1_paid : Nat → Int32) (c1_wage : Nat → Int32)  (n : Nat) : Int32 → (Nat → Int32) → (Nat → Int32) → (Nat → Int32) → Int32 → (Option (Int32 × (Nat → Int32) × (Nat → Int32) × (Nat → Int32))) := lpN (fun _ _ _ _ _ => none) (bX5_copyOf_10 c1_size c1_sort c1_paid c1_wage ) n
noncomputable def fX5_copyOf (c1_size : Int32) (c1_sort : Nat → Int32) (c1_paid : Nat → Int32) (c1_wage : Nat → Int32) (c_size : Int32) (c_sort : Nat → Int32) (c_paid : Nat → Int32) (c_wage : Nat → Int32) : Option (Int32 × (Nat → Int32) × (Nat → Int32) × (Nat → Int32)) :=
  fX5_copyOf_10 c1_size c1_sort c1_paid c1_wage jF c1_size c_sort c_paid c_wage (0 : Int32)
noncomputable def fX5_lot (i0 : Int32) (i1 : Int32) : Option (Int32) :=
  if i1 ≤ (0 : Int32) then (
  some ((0 : Int32)))
  else (
  ckZ i1 (
  some (((UInt32.toInt32 (Int32.toUInt32 i0 >>> (Int32.toUInt32 (16 : Int32) &&& Int32.toUInt32 31))) - (UInt32.toInt32 (Int32.toUInt32 i0 >>> (Int32.toUInt32 (16 : Int32) &&& Int32.toUInt32 31))) / i1 * i1))))
noncomputable def fX5_nextSeed (i0 : Int32) : Option (Int32) :=
  some ((((1103515245 : Int32) * i0) + (12345 : Int32)))
noncomputable def bX5_drawLots_10 (i1 : Int32) (i2 : Int32)  (self : Int32 → (Nat → Int32) → (Nat → Int32) → (Nat → Int32) → Int32 → Int32 → (Option (Int32 × (Nat → Int32) × (Nat → Int32) × (Nat → Int32)))) (c_size : Int32) (c_sort : Nat → Int32) (c_paid : Nat → Int32) (c_wage : Nat → Int32) (i3 : Int32) (i4 : Int32) : Option (Int32 × (Nat → Int32) × (Nat → Int32) × (Nat → Int32)) :=
  if i2 ≤ i4 then (
  some (c_size, c_sort, c_paid, c_wage))
  else (
  bd1 (fX5_nextSeed i3) (fun r_1 =>
  bd1 (fX5_lot r_1 (4 : Int32)) (fun r_2 =>
  wrI 8 c_sort i4 r_2 (fun c_sort_3 =>
  bd1 (fX5_nextSeed r_1) (fun r_4 =>
  bd1 (fX5_lot r_4 (10 : Int32)) (fun r_5 =>
  wrI 8 c_paid i4 r_5 (fun c_paid_6 =>
  bd1 (fX5_nextSeed r_4) (fun r_7 =>
  bd1 (fX5_lot r_7 (10 : Int32)) (fun r_8 =>
  wrI 8 c_wage i4 r_8 (fun c_wage_9 =>
  nmV (i4 + (1 : Int32)) (fun i4_10 =>
  self c_size c_sort_3 c_paid_6 c_wage_9 r_7 i4_10)))))))))))
noncomputable def fX5_drawLots_10 (i1 : Int32) (i2 : Int32)  (n : Nat) : Int32 → (Nat → Int32) → (Nat → Int32) → (Nat → Int32) → Int32 → Int32 → (Option (Int32 × (Nat → Int32) × (Nat → Int32) × (Nat → Int32))) := lpN (fun _ _ _ _ _ _ => none) (bX5_drawLots_10 i1 i2 ) n
noncomputable def fX5_drawLots (i1 : Int32) (i2 : Int32) (c_size : Int32) (c_sort : Nat → Int32) (c_paid : Nat → Int32) (c_wage : Nat → Int32) : Option (Int32 × (Nat → Int32) × (Nat → Int32) × (Nat → Int32)) :=
  fX5_drawLots_10 i1 i2 jF i2 c_sort c_paid c_wage i1 (0 : Int32)
noncomputable def fX7_houseChanged (c_courseKnown : Int32) (c_settledByKnown : Int32) : Option (Int32 × Int32) :=
  some ((0 : Int32), (0 : Int32))
noncomputable def fX7_textChanged (c_text : jT1) (c_courseKnown : Int32) (c_settledByKnown : Int32) (c_told : jT3) : Option (Int32 × Int32 × jT3) :=
  bd4 (fX5_takeFrom c_text.1 c_text.2 c_told.1 c_told.2.1 c_told.2.2.1 c_told.2.2.2) (fun c_told_size_1 c_told_sort_2 c_told_paid_3 c_told_wage_4 =>
  bd2 (fX7_houseChanged c_courseKnown c_settledByKnown) (fun c_courseKnown_5 c_settledByKnown_6 =>
  some (c_courseKnown_5, c_settledByKnown_6, (c_told_size_1, c_told_sort_2, c_told_paid_3, c_told_wage_4))))
noncomputable def fX7_type (i1 : Int32) (c_courseKnown : Int32) (c_settledByKnown : Int32) (c_text : jT1) (c_told : jT3) : Option (Int32 × Int32 × Int32 × jT1 × jT3) :=
  bd1 (fX7_within i1 (0 : Int32) (255 : Int32)) (fun r_1 =>
  if r_1 = (0 : Int32) then (
  some ((-2 : Int32), c_courseKnown, c_settledByKnown, c_text, c_told))
  else (
  if c_text.1 < (31 : Int32) then (
  wrI 31 c_text.2 c_text.1 i1 (fun c_text_bytes_2 =>
  nmV ((c_text.1 + (1 : Int32))) (fun c_text_size_3 =>
  bd3 (fX7_textChanged (c_text_size_3, c_text_bytes_2) c_courseKnown c_settledByKnown c_told) (fun c_courseKnown_4 c_settledByKnown_5 c_told_6 =>
  some (c_text_size_3, c_courseKnown_4, c_settledByKnown_5, (c_text_size_3, c_text_bytes_2), c_told_6)))))
  else (
  some ((-4 : Int32), c_courseKnown, c_settledByKnown, c_text, c_told))))
noncomputable def fX7_wipe (c_courseKnown : Int32) (c_settledByKnown : Int32) (c_text : jT1) (c_told : jT3) : Option (Int32 × Int32 × Int32 × jT1 × jT3) :=
  bd3 (fX7_textChanged ((0 : Int32), c_text.2) c_courseKnown c_settledByKnown c_told) (fun c_courseKnown_1 c_settledByKnown_2 c_told_3 =>
  some (c_text.1, c_courseKnown_1, c_settledByKnown_2, ((0 : Int32), c_text.2), c_told_3))
noncomputable def fX7_undo (c_courseKnown : Int32) (c_settledByKnown : Int32) (c_text : jT1) (c_told : jT3) : Option (Int32 × Int32 × Int32 × jT1 × jT3) :=
  if c_text.1 = (0 : Int32) then (
  some ((-3 : Int32), c_courseKnown, c_settledByKnown, c_text, c_told))
  else (
  nmV ((c_text.1 - (1 : Int32))) (fun c_text_size_1 =>
  bd3 (fX7_textChanged (c_text_size_1, c_text.2) c_courseKnown c_settledByKnown c_told) (fun c_courseKnown_2 c_settledByKnown_3 c_told_4 =>
  some (c_text_size_1, c_courseKnown_2, c_settledByKnown_3, (c_text_size_1, c_text.2), c_told_4))))
noncomputable def fX7_fault (c_text : jT1) : Option (Int32) :=
  bd1 (fX6_faultPlace c_text.1 c_text.2) (fun r_1 =>
  some (r_1))
noncomputable def fX7_isTenant (i1 : Int32) (c_told_size : Int32) : Option (Int32) :=
  if i1 < (0 : Int32) then (
  some ((0 : Int32)))
  else (
  if c_told_size ≤ i1 then (
  some ((0 : Int32)))
  else (
  some ((1 : Int32))))
noncomputable def fX7_tenant (i1 : Int32) (i2 : Int32) (c_told : jT3) : Option (Int32) :=
  bd1 (fX7_isTenant i1 c_told.1) (fun r_1 =>
  if r_1 = (0 : Int32) then (
  some ((-2 : Int32)))
  else (
  bd1 (fX7_within i2 (0 : Int32) (2 : Int32)) (fun r_2 =>
  if r_2 = (0 : Int32) then (
  some ((-2 : Int32)))
  else (
  if i2 = (0 : Int32) then (
  rdA 8 c_told.2.1 i1 (fun v_5 =>
  some (v_5)))
  else (
  if i2 = (1 : Int32) then (
  rdA 8 c_told.2.2.1 i1 (fun v_4 =>
  some (v_4)))
  else (
  rdA 8 c_told.2.2.2 i1 (fun v_3 =>
  some (v_3))))))))
noncomputable def fX7_room (i1 : Int32) (c_room : Int32) (c_courseKnown : Int32) (c_settledByKnown : Int32) : Option (Int32 × Int32 × Int32 × Int32) :=
  bd1 (fX7_within i1 (1 : Int32) (8 : Int32)) (fun r_1 =>
  if r_1 = (0 : Int32) then (
  some ((-2 : Int32), c_room, c_courseKnown, c_settledByKnown))
  else (
  bd2 (fX7_houseChanged c_courseKnown c_settledByKnown) (fun c_courseKnown_2 c_settledByKnown_3 =>
  some (c_room, i1, c_courseKnown_2, c_settledByKnown_3))))
noncomputable def fX7_event (i1 : Int32) (i2 : Int32) (i3 : Int32) (c_courseKnown : Int32) (c_settledByKnown : Int32) (c_events : jT3) : Option (Int32 × Int32 × Int32 × jT3) :=
  bd1 (fX2_canBe i1 i2 i3) (fun r_1 =>
  if r_1 = (0 : Int32) then (
  some ((-2 : Int32), c_courseKnown, c_settledByKnown, c_events))
  else (
  if c_events.1 < (8 : Int32) then (
  bd4 (fX2_add i1 i2 i3 c_events.1 c_events.2.1 c_events.2.2.1 c_events.2.2.2) (fun c_events_size_2 c_events_kind_3 c_events_month_4 c_events_number_5 =>
  bd2 (fX7_houseChanged c_courseKnown c_settledByKnown) (fun c_courseKnown_6 c_settledByKnown_7 =>
  some (c_events_size_2, c_courseKnown_6, c_settledByKnown_7, (c_events_size_2, c_events_kind_3, c_events_month_4, c_events_number_5)))))
  else (
  some ((-4 : Int32), c_courseKnown, c_settledByKnown, c_events))))
noncomputable def fX7_back (c_courseKnown : Int32) (c_settledByKnown : Int32) (c_events_size : Int32) : Option (Int32 × Int32 × Int32 × Int32) :=
  if c_events_size = (0 : Int32) then (
  some ((-3 : Int32), c_courseKnown, c_settledByKnown, c_events_size))
  else (
  nmV ((c_events_size - (1 : Int32))) (fun c_events_size_1 =>
  bd2 (fX7_houseChanged c_courseKnown c_settledByKnown) (fun c_courseKnown_2 c_settledByKnown_3 =>
  some (c_events_size_1, c_courseKnown_2, c_settledByKnown_3, c_events_size_1))))
noncomputable def fX7_found (i1 : Int32) (c_finding : Int32) : Option (Int32 × Int32) :=
  some (((-10 : Int32) - i1), i1)
noncomputable def bX7_read_45 (i1 : Int32) (c_sh0_size : Int32) (c_sh0_lost : Int32) (c_sh0_items : Nat → Int32) (c_sh1_size : Int32) (c_sh1_lost : Int32) (c_sh1_items : Nat → Int32) (c_sh2_size : Int32) (c_sh2_lost : Int32) (c_sh2_items : Nat → Int32) (c_sh3_size : Int32) (c_sh3_lost : Int32) (c_sh3_items : Nat → Int32)  (self : Int32 → Int32 → Int32 → jT3 → Int32 → Int32 → (Option (Int32 × Int32 × Int32 × Int32 × jT3))) (c_finding : Int32) (c_courseKnown : Int32) (c_settledByKnown : Int32) (c_events : jT3) (i3 : Int32) (i4 : Int32) : Option (Int32 × Int32 × Int32 × Int32 × jT3) :=
  if c_sh0_size ≤ (i4 + (2 : Int32)) then (
  some (i3, c_finding, c_courseKnown, c_settledByKnown, c_events))
  else (
  rdA 60 c_sh0_items i4 (fun v_2 =>
  rdA 60 c_sh0_items (i4 + (1 : Int32)) (fun v_3 =>
  rdA 60 c_sh0_items (i4 + (2 : Int32)) (fun v_4 =>
  bd4 (fX7_event v_2 v_3 v_4 c_courseKnown c_settledByKnown c_events) (fun r_5 c_courseKnown_6 c_settledByKnown_7 c_events_8 =>
  if (0 : Int32) ≤ r_5 then (
  nmV (i3 + (1 : Int32)) (fun i3_9 =>
  nmV (i4 + (3 : Int32)) (fun i4_10 =>
  self c_finding c_courseKnown_6 c_settledByKnown_7 c_events_8 i3_9 i4_10)))
  else (
  some (i3, c_finding, c_courseKnown_6, c_settledByKnown_7, c_events_8)))))))
noncomputable def fX7_read_45 (i1 : Int32) (c_sh0_size : Int32) (c_sh0_lost : Int32) (c_sh0_items : Nat → Int32) (c_sh1_size : Int32) (c_sh1_lost : Int32) (c_sh1_items : Nat → Int32) (c_sh2_size : Int32) (c_sh2_lost : Int32) (c_sh2_items : Nat → Int32) (c_sh3_size : Int32) (c_sh3_lost : Int32) (c_sh3_items : Nat → Int32)  (n : Nat) : Int32 → Int32 → Int32 → jT3 → Int32 → Int32 → (Option (Int32 × Int32 × Int32 × Int32 × jT3)) := lpN (fun _ _ _ _ _ _ => none) (bX7_read_45 i1 c_sh0_size c_sh0_lost c_sh0_items c_sh1_size c_sh1_lost c_sh1_items c_sh2_size c_sh2_lost c_sh2_items c_sh3_size c_sh3_lost c_sh3_items ) n
noncomputable def bX7_read_45_v1 (i1 : Int32) (c_sh0_size : Int32) (c_sh0_lost : Int32) (c_sh0_items : Nat → Int32) (c_sh1_size : Int32) (c_sh1_lost : Int32) (c_sh1_items : Nat → Int32) (c_sh2_size : Int32) (c_sh2_lost : Int32) (c_sh2_items : Nat → Int32) (c_sh3_size : Int32) (c_sh3_lost : Int32) (c_sh3_items : Nat → Int32)  (self : Int32 → Int32 → Int32 → jT3 → Int32 → Int32 → (Option (Int32 × Int32 × Int32 × Int32 × jT3))) (c_finding : Int32) (c_courseKnown : Int32) (c_settledByKnown : Int32) (c_events : jT3) (i3 : Int32) (i4 : Int32) : Option (Int32 × Int32 × Int32 × Int32 × jT3) :=
  if c_sh1_size ≤ (i4 + (2 : Int32)) then (
  some (i3, c_finding, c_courseKnown, c_settledByKnown, c_events))
  else (
  rdA 60 c_sh1_items i4 (fun v_13 =>
  rdA 60 c_sh1_items (i4 + (1 : Int32)) (fun v_14 =>
  rdA 60 c_sh1_items (i4 + (2 : Int32)) (fun v_15 =>
  bd4 (fX7_event v_13 v_14 v_15 c_courseKnown c_settledByKnown c_events) (fun r_16 c_courseKnown_17 c_settledByKnown_18 c_events_19 =>
  if (0 : Int32) ≤ r_16 then (
  nmV (i3 + (1 : Int32)) (fun i3_20 =>
  nmV (i4 + (3 : Int32)) (fun i4_21 =>
  self c_finding c_courseKnown_17 c_settledByKnown_18 c_events_19 i3_20 i4_21)))
  else (
  some (i3, c_finding, c_courseKnown_17, c_settledByKnown_18, c_events_19)))))))
noncomputable def fX7_read_45_v1 (i1 : Int32) (c_sh0_size : Int32) (c_sh0_lost : Int32) (c_sh0_items : Nat → Int32) (c_sh1_size : Int32) (c_sh1_lost : Int32) (c_sh1_items : Nat → Int32) (c_sh2_size : Int32) (c_sh2_lost : Int32) (c_sh2_items : Nat → Int32) (c_sh3_size : Int32) (c_sh3_lost : Int32) (c_sh3_items : Nat → Int32)  (n : Nat) : Int32 → Int32 → Int32 → jT3 → Int32 → Int32 → (Option (Int32 × Int32 × Int32 × Int32 × jT3)) := lpN (fun _ _ _ _ _ _ => none) (bX7_read_45_v1 i1 c_sh0_size c_sh0_lost c_sh0_items c_sh1_size c_sh1_lost c_sh1_items c_sh2_size c_sh2_lost c_sh2_items c_sh3_size c_sh3_lost c_sh3_items ) n
noncomputable def bX7_read_45_v2 (i1 : Int32) (c_sh0_size : Int32) (c_sh0_lost : Int32) (c_sh0_items : Nat → Int32) (c_sh1_size : Int32) (c_sh1_lost : Int32) (c_sh1_items : Nat → Int32) (c_sh2_size : Int32) (c_sh2_lost : Int32) (c_sh2_items : Nat → Int32) (c_sh3_size : Int32) (c_sh3_lost : Int32) (c_sh3_items : Nat → Int32)  (self : Int32 → Int32 → Int32 → jT3 → Int32 → Int32 → (Option (Int32 × Int32 × Int32 × Int32 × jT3))) (c_finding : Int32) (c_courseKnown : Int32) (c_settledByKnown : Int32) (c_events : jT3) (i3 : Int32) (i4 : Int32) : Option (Int32 × Int32 × Int32 × Int32 × jT3) :=
  if c_sh2_size ≤ (i4 + (2 : Int32)) then (
  some (i3, c_finding, c_courseKnown, c_settledByKnown, c_events))
  else (
  rdA 60 c_sh2_items i4 (fun v_24 =>
  rdA 60 c_sh2_items (i4 + (1 : Int32)) (fun v_25 =>
  rdA 60 c_sh2_items (i4 + (2 : Int32)) (fun v_26 =>
  bd4 (fX7_event v_24 v_25 v_26 c_courseKnown c_settledByKnown c_events) (fun r_27 c_courseKnown_28 c_settledByKnown_29 c_events_30 =>
  if (0 : Int32) ≤ r_27 then (
  nmV (i3 + (1 : Int32)) (fun i3_31 =>
  nmV (i4 + (3 : Int32)) (fun i4_32 =>
  self c_finding c_courseKnown_28 c_settledByKnown_29 c_events_30 i3_31 i4_32)))
  else (
  some (i3, c_finding, c_courseKnown_28, c_settledByKnown_29, c_events_30)))))))
noncomputable def fX7_read_45_v2 (i1 : Int32) (c_sh0_size : Int32) (c_sh0_lost : Int32) (c_sh0_items : Nat → Int32) (c_sh1_size : Int32) (c_sh1_lost : Int32) (c_sh1_items : Nat → Int32) (c_sh2_size : Int32) (c_sh2_lost : Int32) (c_sh2_items : Nat → Int32) (c_sh3_size : Int32) (c_sh3_lost : Int32) (c_sh3_items : Nat → Int32)  (n : Nat) : Int32 → Int32 → Int32 → jT3 → Int32 → Int32 → (Option (Int32 × Int32 × Int32 × Int32 × jT3)) := lpN (fun _ _ _ _ _ _ => none) (bX7_read_45_v2 i1 c_sh0_size c_sh0_lost c_sh0_items c_sh1_size c_sh1_lost c_sh1_items c_sh2_size c_sh2_lost c_sh2_items c_sh3_size c_sh3_lost c_sh3_items ) n
noncomputable def bX7_read_45_v3 (i1 : Int32) (c_sh0_size : Int32) (c_sh0_lost : Int32) (c_sh0_items : Nat → Int32) (c_sh1_size : Int32) (c_sh1_lost : Int32) (c_sh1_items : Nat → Int32) (c_sh2_size : Int32) (c_sh2_lost : Int32) (c_sh2_items : Nat → Int32) (c_sh3_size : Int32) (c_sh3_lost : Int32) (c_sh3_items : Nat → Int32)  (self : Int32 → Int32 → Int32 → jT3 → Int32 → Int32 → (Option (Int32 × Int32 × Int32 × Int32 × jT3))) (c_finding : Int32) (c_courseKnown : Int32) (c_settledByKnown : Int32) (c_events : jT3) (i3 : Int32) (i4 : Int32) : Option (Int32 × Int32 × Int32 × Int32 × jT3) :=
  if c_sh3_size ≤ (i4 + (2 : Int32)) then (
  some (i3, c_finding, c_courseKnown, c_settledByKnown, c_events))
  else (
  rdA 60 c_sh3_items i4 (fun v_35 =>
  rdA 60 c_sh3_items (i4 + (1 : Int32)) (fun v_36 =>
  rdA 60 c_sh3_items (i4 + (2 : Int32)) (fun v_37 =>
  bd4 (fX7_event v_35 v_36 v_37 c_courseKnown c_settledByKnown c_events) (fun r_38 c_courseKnown_39 c_settledByKnown_40 c_events_41 =>
  if (0 : Int32) ≤ r_38 then (
  nmV (i3 + (1 : Int32)) (fun i3_42 =>
  nmV (i4 + (3 : Int32)) (fun i4_43 =>
  self c_finding c_courseKnown_39 c_settledByKnown_40 c_events_41 i3_42 i4_43)))
  else (
  some (i3, c_finding, c_courseKnown_39, c_settledByKnown_40, c_events_41)))))))
noncomputable def fX7_read_45_v3 (i1 : Int32) (c_sh0_size : Int32) (c_sh0_lost : Int32) (c_sh0_items : Nat → Int32) (c_sh1_size : Int32) (c_sh1_lost : Int32) (c_sh1_items : Nat → Int32) (c_sh2_size : Int32) (c_sh2_lost : Int32) (c_sh2_items : Nat → Int32) (c_sh3_size : Int32) (c_sh3_lost : Int32) (c_sh3_items : Nat → Int32)  (n : Nat) : Int32 → Int32 → Int32 → jT3 → Int32 → Int32 → (Option (Int32 × Int32 × Int32 × Int32 × jT3)) := lpN (fun _ _ _ _ _ _ => none) (bX7_read_45_v3 i1 c_sh0_size c_sh0_lost c_sh0_items c_sh1_size c_sh1_lost c_sh1_items c_sh2_size c_sh2_lost c_sh2_items c_sh3_size c_sh3_lost c_sh3_items ) n
noncomputable def fX7_read (i1 : Int32) (c_sh0_size : Int32) (c_sh0_lost : Int32) (c_sh0_items : Nat → Int32) (c_sh1_size : Int32) (c_sh1_lost : Int32) (c_sh1_items : Nat → Int32) (c_sh2_size : Int32) (c_sh2_lost : Int32) (c_sh2_items : Nat → Int32) (c_sh3_size : Int32) (c_sh3_lost : Int32) (c_sh3_items : Nat → Int32) (c_finding : Int32) (c_courseKnown : Int32) (c_settledByKnown : Int32) (c_events : jT3) : Option (Int32 × Int32 × Int32 × Int32 × jT3) :=
  bd1 (fX7_within i1 (0 : Int32) (3 : Int32)) (fun r_1 =>
  if r_1 = (0 : Int32) then (
  some ((-2 : Int32), c_finding, c_courseKnown, c_settledByKnown, c_events))
  else (
  sw4 i1
  (if c_sh0_lost = (0 : Int32) then (
  fX7_read_45 i1 c_sh0_size c_sh0_lost c_sh0_items c_sh1_size c_sh1_lost c_sh1_items c_sh2_size c_sh2_lost c_sh2_items c_sh3_size c_sh3_lost c_sh3_items jF c_finding c_courseKnown c_settledByKnown c_events (0 : Int32) (0 : Int32))
  else (
  bd2 (fX7_found (1 : Int32) c_finding) (fun r_11 c_finding_12 =>
  some (r_11, c_finding_12, c_courseKnown, c_settledByKnown, c_events))))
  (if c_sh1_lost = (0 : Int32) then (
  fX7_read_45_v1 i1 c_sh0_size c_sh0_lost c_sh0_items c_sh1_size c_sh1_lost c_sh1_items c_sh2_size c_sh2_lost c_sh2_items c_sh3_size c_sh3_lost c_sh3_items jF c_finding c_courseKnown c_settledByKnown c_events (0 : Int32) (0 : Int32))
  else (
  bd2 (fX7_found (1 : Int32) c_finding) (fun r_22 c_finding_23 =>
  some (r_22, c_finding_23, c_courseKnown, c_settledByKnown, c_events))))
  (if c_sh2_lost = (0 : Int32) then (
  fX7_read_45_v2 i1 c_sh0_size c_sh0_lost c_sh0_items c_sh1_size c_sh1_lost c_sh1_items c_sh2_size c_sh2_lost c_sh2_items c_sh3_size c_sh3_lost c_sh3_items jF c_finding c_courseKnown c_settledByKnown c_events (0 : Int32) (0 : Int32))
  else (
  bd2 (fX7_found (1 : Int32) c_finding) (fun r_33 c_finding_34 =>
  some (r_33, c_finding_34, c_courseKnown, c_settledByKnown, c_events))))
  (if c_sh3_lost = (0 : Int32) then (
  fX7_read_45_v3 i1 c_sh0_size c_sh0_lost c_sh0_items c_sh1_size c_sh1_lost c_sh1_items c_sh2_size c_sh2_lost c_sh2_items c_sh3_size c_sh3_lost c_sh3_items jF c_finding c_courseKnown c_settledByKnown c_events (0 : Int32) (0 : Int32))
  else (
  bd2 (fX7_found (1 : Int32) c_finding) (fun r_44 c_finding_45 =>
  some (r_44, c_finding_45, c_courseKnown, c_settledByKnown, c_events))))))
noncomputable def fX7_courseTold (c_room : Int32) (c_told : jT3) (c_events : jT3) (c_courseKnown : Int32) (c_course : jT11) : Option (Int32 × jT11) :=
  if c_courseKnown = (0 : Int32) then (
  bd12 (fX1_run (255 : Int32) c_room c_told.1 c_told.2.1 c_told.2.2.1 c_told.2.2.2 c_events.1 c_events.2.1 c_events.2.2.1 c_events.2.2.2 c_course.1 c_course.2.1 c_course.2.2.1 c_course.2.2.2.1 c_course.2.2.2.2.1 c_course.2.2.2.2.2.1 c_course.2.2.2.2.2.2.1 c_course.2.2.2.2.2.2.2.1 c_course.2.2.2.2.2.2.2.2.1 c_course.2.2.2.2.2.2.2.2.2.1 c_course.2.2.2.2.2.2.2.2.2.2.1 c_course.2.2.2.2.2.2.2.2.2.2.2) (fun c_course_size_1 c_course_settled_2 c_course_falls_3 c_course_passed_4 c_course_floors_5 c_course_lefts_6 c_course_fallers_7 c_course_floor_8 c_course_before_9 c_course_left_10 c_course_order_11 c_course_taken_12 =>
  some ((1 : Int32), (c_course_size_1, c_course_settled_2, c_course_falls_3, c_course_passed_4, c_course_floors_5, c_course_lefts_6, c_course_fallers_7, c_course_floor_8, c_course_before_9, c_course_left_10, c_course_order_11, c_course_taken_12))))
  else (
  some (c_courseKnown, c_course))
noncomputable def fX7_at (i1 : Int32) (i2 : Int32) (i3 : Int32) (c_room : Int32) (c_told : jT3) (c_events : jT3) (c_courseKnown : Int32) (c_course : jT11) : Option (Int32 × Int32 × jT11) :=
  bd1 (fX7_isMonth i1) (fun r_1 =>
  if r_1 = (0 : Int32) then (
  some ((-2147483648 : Int32), c_courseKnown, c_course))
  else (
  bd1 (fX7_isTenant i2 c_told.1) (fun r_2 =>
  if r_2 = (0 : Int32) then (
  some ((-2147483648 : Int32), c_courseKnown, c_course))
  else (
  bd1 (fX7_within i3 (0 : Int32) (3 : Int32)) (fun r_3 =>
  if r_3 = (0 : Int32) then (
  some ((-2147483648 : Int32), c_courseKnown, c_course))
  else (
  bd2 (fX7_courseTold c_room c_told c_events c_courseKnown c_course) (fun c_courseKnown_4 c_course_5 =>
  if i3 = (0 : Int32) then (
  bd1 (fX1_floorAt i1 i2 c_course_5.2.2.2.2.1) (fun r_6 =>
  some (r_6, c_courseKnown_4, c_course_5)))
  else (
  if i3 = (1 : Int32) then (
  bd1 (fX1_leftAt i1 i2 c_course_5.2.2.2.2.2.1) (fun r_7 =>
  some (r_7, c_courseKnown_4, c_course_5)))
  else (
  if i3 = (2 : Int32) then (
  bd1 (fX1_owes i1 i2 c_course_5.2.2.2.2.1 c_course_5.2.2.2.2.2.1) (fun r_8 =>
  if r_8 = (0 : Int32) then (
  some ((0 : Int32), c_courseKnown_4, c_course_5))
  else (
  some ((1 : Int32), c_courseKnown_4, c_course_5))))
  else (
  bd1 (fX1_fellIn i1 i2 c_course_5.2.2.2.2.2.2.1) (fun r_9 =>
  if r_9 = (0 : Int32) then (
  some ((0 : Int32), c_courseKnown_4, c_course_5))
  else (
  some ((1 : Int32), c_courseKnown_4, c_course_5)))))))))))))
noncomputable def fX7_live (i1 : Int32) (i2 : Int32) (c_room : Int32) (c_told : jT3) (c_events : jT3) (c_courseKnown : Int32) (c_course : jT11) : Option (Int32 × Int32 × jT11) :=
  bd1 (fX7_isMonth i1) (fun r_1 =>
  if r_1 = (0 : Int32) then (
  some ((-2 : Int32), c_courseKnown, c_course))
  else (
  bd1 (fX7_within i2 (0 : Int32) (12 : Int32)) (fun r_2 =>
  if r_2 = (0 : Int32) then (
  some ((-2 : Int32), c_courseKnown, c_course))
  else (
  bd2 (fX7_courseTold c_room c_told c_events c_courseKnown c_course) (fun c_courseKnown_3 c_course_4 =>
  bd1 (fX1_whoLives i1 i2 c_course_4.1 c_course_4.2.2.2.2.1) (fun r_5 =>
  some (r_5, c_courseKnown_3, c_course_4)))))))
noncomputable def fX7_lift (i1 : Int32) (c_room : Int32) (c_told : jT3) (c_events : jT3) (c_courseKnown : Int32) (c_course : jT11) : Option (Int32 × Int32 × jT11) :=
  bd1 (fX7_isMonth i1) (fun r_1 =>
  if r_1 = (0 : Int32) then (
  some ((-2 : Int32), c_courseKnown, c_course))
  else (
  bd2 (fX7_courseTold c_room c_told c_events c_courseKnown c_course) (fun c_courseKnown_2 c_course_3 =>
  bd1 (fX1_liftStops i1 c_course_3.1 c_course_3.2.2.2.2.1 c_course_3.2.2.2.2.2.1) (fun r_4 =>
  some (r_4, c_courseKnown_2, c_course_3)))))
noncomputable def fX7_ends (i1 : Int32) (i2 : Int32) (c_room : Int32) (c_told : jT3) (c_events : jT3) (c_courseKnown : Int32) (c_course : jT11) : Option (Int32 × Int32 × jT11) :=
  bd1 (fX7_isTenant i1 c_told.1) (fun r_1 =>
  if r_1 = (0 : Int32) then (
  some ((-2147483648 : Int32), c_courseKnown, c_course))
  else (
  bd1 (fX7_within i2 (0 : Int32) (3 : Int32)) (fun r_2 =>
  if r_2 = (0 : Int32) then (
  some ((-2147483648 : Int32), c_courseKnown, c_course))
  else (
  bd2 (fX7_courseTold c_room c_told c_events c_courseKnown c_course) (fun c_courseKnown_3 c_course_4 =>
  if i2 = (0 : Int32) then (
  rdA 8 c_course_4.2.1 i1 (fun v_5 =>
  some (v_5, c_courseKnown_3, c_course_4)))
  else (
  if i2 = (1 : Int32) then (
  rdA 8 c_course_4.2.2.1 i1 (fun v_6 =>
  some (v_6, c_courseKnown_3, c_course_4)))
  else (
  if i2 = (2 : Int32) then (
  rdA 8 c_course_4.2.2.2.1 i1 (fun v_7 =>
  some (v_7, c_courseKnown_3, c_course_4)))
  else (
  bd1 (fX1_highestOf i1 c_course_4.2.2.2.2.1) (fun r_8 =>
  some (r_8, c_courseKnown_3, c_course_4))))))))))
noncomputable def fX7_sum (i1 : Int32) (c_room : Int32) (c_told : jT3) (c_events : jT3) (c_courseKnown : Int32) (c_course : jT11) : Option (Int32 × Int32 × jT11) :=
  bd1 (fX7_within i1 (0 : Int32) (3 : Int32)) (fun r_1 =>
  if r_1 = (0 : Int32) then (
  some ((-2 : Int32), c_courseKnown, c_course))
  else (
  bd2 (fX7_courseTold c_room c_told c_events c_courseKnown c_course) (fun c_courseKnown_2 c_course_3 =>
  if i1 = (0 : Int32) then (
  bd1 (fX1_settledInAll c_course_3.1 c_course_3.2.1) (fun r_4 =>
  some (r_4, c_courseKnown_2, c_course_3)))
  else (
  if i1 = (1 : Int32) then (
  bd1 (fX1_fallsInAll c_course_3.1 c_course_3.2.2.1) (fun r_5 =>
  some (r_5, c_courseKnown_2, c_course_3)))
  else (
  if i1 = (2 : Int32) then (
  bd1 (fX1_passedInAll c_course_3.1 c_course_3.2.2.2.1) (fun r_6 =>
  some (r_6, c_courseKnown_2, c_course_3)))
  else (
  bd1 (fX1_owedInAll c_course_3.1 c_course_3.2.2.2.2.1 c_course_3.2.2.2.2.2.1) (fun r_7 =>
  some (r_7, c_courseKnown_2, c_course_3))))))))
noncomputable def fX7_top (c_room : Int32) (c_told : jT3) (c_events : jT3) (c_courseKnown : Int32) (c_course : jT11) : Option (Int32 × Int32 × jT11) :=
  bd2 (fX7_courseTold c_room c_told c_events c_courseKnown c_course) (fun c_courseKnown_1 c_course_2 =>
  bd1 (fX1_topTenant c_course_2.1 c_course_2.2.2.2.2.1) (fun r_3 =>
  some (r_3, c_courseKnown_1, c_course_2)))
noncomputable def fX7_heard (c_room : Int32) (c_told : jT3) (c_events : jT3) (c_courseKnown : Int32) (c_course : jT11) : Option (Int32 × Int32 × jT11) :=
  bd2 (fX7_courseTold c_room c_told c_events c_courseKnown c_course) (fun c_courseKnown_1 c_course_2 =>
  bd1 (fX1_heardFloors c_course_2.1 c_course_2.2.2.2.2.1) (fun r_3 =>
  some (r_3, c_courseKnown_1, c_course_2)))
noncomputable def bX7_planWage_20 (i1 : Int32) (c_room : Int32) (c_told : jT3) (c_events : jT3)  (self : jT3 → jT11 → jB3 → Int32 → (Option (jT3 × jT11 × jB3))) (c_others : jT3) (c_trial : jT11) (c_best : jB3) (i2 : Int32) : Option (jT3 × jT11 × jB3) :=
  if (10 : Int32) ≤ i2 then (
  some (c_others, c_trial, c_best))
  else (
  wrI 8 c_others.2.2.2 i1 i2 (fun c_others_wage_6 =>
  bd12 (fX1_run (255 : Int32) c_room c_others.1 c_others.2.1 c_others.2.2.1 c_others_wage_6 c_events.1 c_events.2.1 c_events.2.2.1 c_events.2.2.2 c_trial.1 c_trial.2.1 c_trial.2.2.1 c_trial.2.2.2.1 c_trial.2.2.2.2.1 c_trial.2.2.2.2.2.1 c_trial.2.2.2.2.2.2.1 c_trial.2.2.2.2.2.2.2.1 c_trial.2.2.2.2.2.2.2.2.1 c_trial.2.2.2.2.2.2.2.2.2.1 c_trial.2.2.2.2.2.2.2.2.2.2.1 c_trial.2.2.2.2.2.2.2.2.2.2.2) (fun c_trial_size_7 c_trial_settled_8 c_trial_falls_9 c_trial_passed_10 c_trial_floors_11 c_trial_lefts_12 c_trial_fallers_13 c_trial_floor_14 c_trial_before_15 c_trial_left_16 c_trial_order_17 c_trial_taken_18 =>
  bd1 (fX1_settledInAll c_trial_size_7 c_trial_settled_8) (fun r_19 =>
  bd1 (fX1_fallsInAll c_trial_size_7 c_trial_falls_9) (fun r_20 =>
  bd3 (fX0_offer i2 r_19 r_20 c_best.1 c_best.2.1 c_best.2.2) (fun c_best_which_21 c_best_settled_22 c_best_falls_23 =>
  nmV (i2 + (1 : Int32)) (fun i2_24 =>
  self (c_others.1, c_others.2.1, c_others.2.2.1, c_others_wage_6) (c_trial_size_7, c_trial_settled_8, c_trial_falls_9, c_trial_passed_10, c_trial_floors_11, c_trial_lefts_12, c_trial_fallers_13, c_trial_floor_14, c_trial_before_15, c_trial_left_16, c_trial_order_17, c_trial_taken_18) (c_best_which_21, c_best_settled_22, c_best_falls_23) i2_24)))))))
noncomputable def fX7_planWage_20 (i1 : Int32) (c_room : Int32) (c_told : jT3) (c_events : jT3)  (n : Nat) : jT3 → jT11 → jB3 → Int32 → (Option (jT3 × jT11 × jB3)) := lpN (fun _ _ _ _ => none) (bX7_planWage_20 i1 c_room c_told c_events ) n
noncomputable def fX7_planWage (i1 : Int32) (c_room : Int32) (c_told : jT3) (c_events : jT3) (c_others : jT3) (c_trial : jT11) (c_best : jB3) : Option (jT3 × jT11 × jB3) :=
  bd1 (fX0_clear c_best.1) (fun c_best_which_1 =>
  bd4 (fX5_copyOf c_told.1 c_told.2.1 c_told.2.2.1 c_told.2.2.2 c_others.1 c_others.2.1 c_others.2.2.1 c_others.2.2.2) (fun c_others_size_2 c_others_sort_3 c_others_paid_4 c_others_wage_5 =>
  fX7_planWage_20 i1 c_room c_told c_events jF (c_others_size_2, c_others_sort_3, c_others_paid_4, c_others_wage_5) c_trial (c_best_which_1, c_best.2.1, c_best.2.2) (0 : Int32)))
noncomputable def fX7_earn (i1 : Int32) (i2 : Int32) (c_room : Int32) (c_told : jT3) (c_events : jT3) (c_others : jT3) (c_trial : jT11) (c_best : jB3) : Option (Int32 × jT3 × jT11 × jB3) :=
  bd1 (fX7_isTenant i1 c_told.1) (fun r_1 =>
  if r_1 = (0 : Int32) then (
  some ((-2 : Int32), c_others, c_trial, c_best))
  else (
  bd1 (fX7_within i2 (0 : Int32) (2 : Int32)) (fun r_2 =>
  if r_2 = (0 : Int32) then (
  some ((-2 : Int32), c_others, c_trial, c_best))
  else (
  bd3 (fX7_planWage i1 c_room c_told c_events c_others c_trial c_best) (fun c_others_3 c_trial_4 c_best_5 =>
  bd1 (fX0_part i2 c_best_5.1 c_best_5.2.1 c_best_5.2.2) (fun r_6 =>
  some (r_6, c_others_3, c_trial_4, c_best_5)))))))
noncomputable def bX7_planSort_20 (i1 : Int32) (c_room : Int32) (c_told : jT3) (c_events : jT3)  (self : jT3 → jT11 → jB3 → Int32 → (Option (jT3 × jT11 × jB3))) (c_others : jT3) (c_trial : jT11) (c_best : jB3) (i2 : Int32) : Option (jT3 × jT11 × jB3) :=
  if (4 : Int32) ≤ i2 then (
  some (c_others, c_trial, c_best))
  else (
  wrI 8 c_others.2.1 i1 i2 (fun c_others_sort_6 =>
  bd12 (fX1_run (255 : Int32) c_room c_others.1 c_others_sort_6 c_others.2.2.1 c_others.2.2.2 c_events.1 c_events.2.1 c_events.2.2.1 c_events.2.2.2 c_trial.1 c_trial.2.1 c_trial.2.2.1 c_trial.2.2.2.1 c_trial.2.2.2.2.1 c_trial.2.2.2.2.2.1 c_trial.2.2.2.2.2.2.1 c_trial.2.2.2.2.2.2.2.1 c_trial.2.2.2.2.2.2.2.2.1 c_trial.2.2.2.2.2.2.2.2.2.1 c_trial.2.2.2.2.2.2.2.2.2.2.1 c_trial.2.2.2.2.2.2.2.2.2.2.2) (fun c_trial_size_7 c_trial_settled_8 c_trial_falls_9 c_trial_passed_10 c_trial_floors_11 c_trial_lefts_12 c_trial_fallers_13 c_trial_floor_14 c_trial_before_15 c_trial_left_16 c_trial_order_17 c_trial_taken_18 =>
  bd1 (fX1_settledInAll c_trial_size_7 c_trial_settled_8) (fun r_19 =>
  bd1 (fX1_fallsInAll c_trial_size_7 c_trial_falls_9) (fun r_20 =>
  bd3 (fX0_offer i2 r_19 r_20 c_best.1 c_best.2.1 c_best.2.2) (fun c_best_which_21 c_best_settled_22 c_best_falls_23 =>
  nmV (i2 + (1 : Int32)) (fun i2_24 =>
  self (c_others.1, c_others_sort_6, c_others.2.2.1, c_others.2.2.2) (c_trial_size_7, c_trial_settled_8, c_trial_falls_9, c_trial_passed_10, c_trial_floors_11, c_trial_lefts_12, c_trial_fallers_13, c_trial_floor_14, c_trial_before_15, c_trial_left_16, c_trial_order_17, c_trial_taken_18) (c_best_which_21, c_best_settled_22, c_best_falls_23) i2_24)))))))
noncomputable def fX7_planSort_20 (i1 : Int32) (c_room : Int32) (c_told : jT3) (c_events : jT3)  (n : Nat) : jT3 → jT11 → jB3 → Int32 → (Option (jT3 × jT11 × jB3)) := lpN (fun _ _ _ _ => none) (bX7_planSort_20 i1 c_room c_told c_events ) n
noncomputable def fX7_planSort (i1 : Int32) (c_room : Int32) (c_told : jT3) (c_events : jT3) (c_others : jT3) (c_trial : jT11) (c_best : jB3) : Option (jT3 × jT11 × jB3) :=
  bd1 (fX0_clear c_best.1) (fun c_best_which_1 =>
  bd4 (fX5_copyOf c_told.1 c_told.2.1 c_told.2.2.1 c_told.2.2.2 c_others.1 c_others.2.1 c_others.2.2.1 c_others.2.2.2) (fun c_others_size_2 c_others_sort_3 c_others_paid_4 c_others_wage_5 =>
  fX7_planSort_20 i1 c_room c_told c_events jF (c_others_size_2, c_others_sort_3, c_others_paid_4, c_others_wage_5) c_trial (c_best_which_1, c_best.2.1, c_best.2.2) (0 : Int32)))
noncomputable def fX7_be (i1 : Int32) (i2 : Int32) (c_room : Int32) (c_told : jT3) (c_events : jT3) (c_others : jT3) (c_trial : jT11) (c_best : jB3) : Option (Int32 × jT3 × jT11 × jB3) :=
  bd1 (fX7_isTenant i1 c_told.1) (fun r_1 =>
  if r_1 = (0 : Int32) then (
  some ((-2 : Int32), c_others, c_trial, c_best))
  else (
  bd1 (fX7_within i2 (0 : Int32) (2 : Int32)) (fun r_2 =>
  if r_2 = (0 : Int32) then (
  some ((-2 : Int32), c_others, c_trial, c_best))
  else (
  bd3 (fX7_planSort i1 c_room c_told c_events c_others c_trial c_best) (fun c_others_3 c_trial_4 c_best_5 =>
  bd1 (fX0_part i2 c_best_5.1 c_best_5.2.1 c_best_5.2.2) (fun r_6 =>
  some (r_6, c_others_3, c_trial_4, c_best_5)))))))
noncomputable def bX7_planRoom_9 (c_told : jT3) (c_events : jT3)  (self : jT11 → jB3 → Int32 → (Option (jT11 × jB3))) (c_trial : jT11) (c_best : jB3) (i1 : Int32) : Option (jT11 × jB3) :=
  if (8 : Int32) < i1 then (
  some (c_trial, c_best))
  else (
  bd12 (fX1_run (255 : Int32) i1 c_told.1 c_told.2.1 c_told.2.2.1 c_told.2.2.2 c_events.1 c_events.2.1 c_events.2.2.1 c_events.2.2.2 c_trial.1 c_trial.2.1 c_trial.2.2.1 c_trial.2.2.2.1 c_trial.2.2.2.2.1 c_trial.2.2.2.2.2.1 c_trial.2.2.2.2.2.2.1 c_trial.2.2.2.2.2.2.2.1 c_trial.2.2.2.2.2.2.2.2.1 c_trial.2.2.2.2.2.2.2.2.2.1 c_trial.2.2.2.2.2.2.2.2.2.2.1 c_trial.2.2.2.2.2.2.2.2.2.2.2) (fun c_trial_size_2 c_trial_settled_3 c_trial_falls_4 c_trial_passed_5 c_trial_floors_6 c_trial_lefts_7 c_trial_fallers_8 c_trial_floor_9 c_trial_before_10 c_trial_left_11 c_trial_order_12 c_trial_taken_13 =>
  bd1 (fX1_settledInAll c_trial_size_2 c_trial_settled_3) (fun r_14 =>
  bd1 (fX1_fallsInAll c_trial_size_2 c_trial_falls_4) (fun r_15 =>
  bd3 (fX0_offer i1 r_14 r_15 c_best.1 c_best.2.1 c_best.2.2) (fun c_best_which_16 c_best_settled_17 c_best_falls_18 =>
  nmV (i1 + (1 : Int32)) (fun i1_19 =>
  self (c_trial_size_2, c_trial_settled_3, c_trial_falls_4, c_trial_passed_5, c_trial_floors_6, c_trial_lefts_7, c_trial_fallers_8, c_trial_floor_9, c_trial_before_10, c_trial_left_11, c_trial_order_12, c_trial_taken_13) (c_best_which_16, c_best_settled_17, c_best_falls_18) i1_19))))))
noncomputable def fX7_planRoom_9 (c_told : jT3) (c_events : jT3)  (n : Nat) : jT11 → jB3 → Int32 → (Option (jT11 × jB3)) := lpN (fun _ _ _ => none) (bX7_planRoom_9 c_told c_events ) n
noncomputable def fX7_planRoom (c_told : jT3) (c_events : jT3) (c_trial : jT11) (c_best : jB3) : Option (jT11 × jB3) :=
  bd1 (fX0_clear c_best.1) (fun c_best_which_1 =>
  fX7_planRoom_9 c_told c_events jF c_trial (c_best_which_1, c_best.2.1, c_best.2.2) (1 : Int32))
noncomputable def fX7_widen (i1 : Int32) (c_told : jT3) (c_events : jT3) (c_trial : jT11) (c_best : jB3) : Option (Int32 × jT11 × jB3) :=
  bd1 (fX7_within i1 (0 : Int32) (2 : Int32)) (fun r_1 =>
  if r_1 = (0 : Int32) then (
  some ((-2 : Int32), c_trial, c_best))
  else (
  bd2 (fX7_planRoom c_told c_events c_trial c_best) (fun c_trial_2 c_best_3 =>
  bd1 (fX0_part i1 c_best_3.1 c_best_3.2.1 c_best_3.2.2) (fun r_4 =>
  some (r_4, c_trial_2, c_best_3)))))
noncomputable def fX7_bitPlace_28 (i0 : Int32) (i1 : Int32) (q_4 : Int32 → Int32 → Option (Int32)) (i2 : Int32) (i3 : Int32) : Option (Int32) :=
  nmV (i3 + (1 : Int32)) (fun i3_1 =>
  q_4 i2 i3_1)
noncomputable def bX7_bitPlace_4 (i0 : Int32) (i1 : Int32)  (self : Int32 → Int32 → Option (Int32)) (i2 : Int32) (i3 : Int32) : Option (Int32) :=
  if (8 : Int32) ≤ i3 then (
  some ((-1 : Int32)))
  else (
  if ((i0 >>> (i3 &&& (31 : Int32))) &&& (1 : Int32)) = (0 : Int32) then (
  fX7_bitPlace_28 i0 i1 self i2 i3)
  else (
  if i2 = i1 then (
  some (i3))
  else (
  nmV (i2 + (1 : Int32)) (fun i2_2 =>
  fX7_bitPlace_28 i0 i1 self i2_2 i3))))
noncomputable def fX7_bitPlace_4 (i0 : Int32) (i1 : Int32)  (n : Nat) : Int32 → Int32 → Option (Int32) := lpN (fun _ _ => none) (bX7_bitPlace_4 i0 i1 ) n
noncomputable def fX7_bitPlace (i0 : Int32) (i1 : Int32) : Option (Int32) :=
  fX7_bitPlace_4 i0 i1 jF (0 : Int32) (0 : Int32)
noncomputable def fX7_settledWith_62 (i1 : Int32) (c_room : Int32) (c_told : jT3) (c_events : jT3)  (c_settledByKnown : Int32) (c_trial : jT11) (c_settledBy : Nat → Int32) : Option (Int32 × Int32 × jT11 × (Nat → Int32)) :=
  rdA 256 c_settledBy i1 (fun v_2 =>
  some (v_2, c_settledByKnown, c_trial, c_settledBy))
noncomputable def fX7_settledWith_20 (i1 : Int32) (c_room : Int32) (c_told : jT3) (c_events : jT3)  (c_settledByKnown : Int32) (c_trial : jT11) (c_settledBy : Nat → Int32) : Option (Int32 × Int32 × jT11 × (Nat → Int32)) :=
  rdA 256 c_settledBy i1 (fun v_1 =>
  if (0 : Int32) ≤ v_1 then (
  fX7_settledWith_62 i1 c_room c_told c_events c_settledByKnown c_trial c_settledBy)
  else (
  bd12 (fX1_run i1 c_room c_told.1 c_told.2.1 c_told.2.2.1 c_told.2.2.2 c_events.1 c_events.2.1 c_events.2.2.1 c_events.2.2.2 c_trial.1 c_trial.2.1 c_trial.2.2.1 c_trial.2.2.2.1 c_trial.2.2.2.2.1 c_trial.2.2.2.2.2.1 c_trial.2.2.2.2.2.2.1 c_trial.2.2.2.2.2.2.2.1 c_trial.2.2.2.2.2.2.2.2.1 c_trial.2.2.2.2.2.2.2.2.2.1 c_trial.2.2.2.2.2.2.2.2.2.2.1 c_trial.2.2.2.2.2.2.2.2.2.2.2) (fun c_trial_size_3 c_trial_settled_4 c_trial_falls_5 c_trial_passed_6 c_trial_floors_7 c_trial_lefts_8 c_trial_fallers_9 c_trial_floor_10 c_trial_before_11 c_trial_left_12 c_trial_order_13 c_trial_taken_14 =>
  bd1 (fX1_settledBits c_trial_size_3 c_trial_settled_4) (fun r_15 =>
  wrI 256 c_settledBy i1 r_15 (fun c_settledBy_16 =>
  fX7_settledWith_62 i1 c_room c_told c_events c_settledByKnown (c_trial_size_3, c_trial_settled_4, c_trial_falls_5, c_trial_passed_6, c_trial_floors_7, c_trial_lefts_8, c_trial_fallers_9, c_trial_floor_10, c_trial_before_11, c_trial_left_12, c_trial_order_13, c_trial_taken_14) c_settledBy_16)))))
noncomputable def fX7_settledWith (i1 : Int32) (c_room : Int32) (c_told : jT3) (c_events : jT3) (c_settledByKnown : Int32) (c_trial : jT11) (c_settledBy : Nat → Int32) : Option (Int32 × Int32 × jT11 × (Nat → Int32)) :=
  if c_settledByKnown = (0 : Int32) then (
  bd1 (fJ7_fill_53178 (-1 : Int32) 256 c_settledBy) (fun c_settledBy_17 =>
  fX7_settledWith_20 i1 c_room c_told c_events (1 : Int32) c_trial c_settledBy_17))
  else (
  fX7_settledWith_20 i1 c_room c_told c_events c_settledByKnown c_trial c_settledBy)
noncomputable def bX7_sparedEvents_76 (c_room : Int32) (c_told : jT3) (c_events : jT3) (q_61 : Int32 → jT11 → (Nat → Int32) → Int32 → Int32 → (Option (Int32 × Int32 × jT11 × (Nat → Int32)))) (self : Int32 → jT11 → (Nat → Int32) → Int32 → Int32 → Int32 → (Option (Int32 × Int32 × jT11 × (Nat → Int32)))) (c_settledByKnown : Int32) (c_trial : jT11) (c_settledBy : Nat → Int32) (i1 : Int32) (i2 : Int32) (i3 : Int32) : Option (Int32 × Int32 × jT11 × (Nat → Int32)) :=
  if c_events.1 ≤ i3 then (
  nmV (i2 + (1 : Int32)) (fun i2_7 =>
  q_61 c_settledByKnown c_trial c_settledBy i1 i2_7))
  else (
  nmV ((((1 : Int32) <<< (i2 &&& (31 : Int32))) ||| ((1 : Int32) <<< (i3 &&& (31 : Int32))))) (fun i4_8 =>
  bd4 (fX7_settledWith (i1 &&& (i4_8 ^^^ (-1 : Int32))) c_room c_told c_events c_settledByKnown c_trial c_settledBy) (fun r_9 c_settledByKnown_10 c_trial_11 c_settledBy_12 =>
  if r_9 = (0 : Int32) then (
  some (i4_8, c_settledByKnown_10, c_trial_11, c_settledBy_12))
  else (
  nmV (i3 + (1 : Int32)) (fun i3_13 =>
  self c_settledByKnown_10 c_trial_11 c_settledBy_12 i1 i2 i3_13)))))
noncomputable def fX7_sparedEvents_76 (c_room : Int32) (c_told : jT3) (c_events : jT3) (q_61 : Int32 → jT11 → (Nat → Int32) → Int32 → Int32 → (Option (Int32 × Int32 × jT11 × (Nat → Int32)))) (n : Nat) : Int32 → jT11 → (Nat → Int32) → Int32 → Int32 → Int32 → (Option (Int32 × Int32 × jT11 × (Nat → Int32))) := lpN (fun _ _ _ _ _ _ => none) (bX7_sparedEvents_76 c_room c_told c_events q_61) n
noncomputable def bX7_sparedEvents_61 (c_room : Int32) (c_told : jT3) (c_events : jT3)  (self : Int32 → jT11 → (Nat → Int32) → Int32 → Int32 → (Option (Int32 × Int32 × jT11 × (Nat → Int32)))) (c_settledByKnown : Int32) (c_trial : jT11) (c_settledBy : Nat → Int32) (i1 : Int32) (i2 : Int32) : Option (Int32 × Int32 × jT11 × (Nat → Int32)) :=
  if c_events.1 ≤ i2 then (
  some ((-1 : Int32), c_settledByKnown, c_trial, c_settledBy))
  else (
  nmV ((i2 + (1 : Int32))) (fun i3_6 =>
  fX7_sparedEvents_76 c_room c_told c_events self jF c_settledByKnown c_trial c_settledBy i1 i2 i3_6))
noncomputable def fX7_sparedEvents_61 (c_room : Int32) (c_told : jT3) (c_events : jT3)  (n : Nat) : Int32 → jT11 → (Nat → Int32) → Int32 → Int32 → (Option (Int32 × Int32 × jT11 × (Nat → Int32))) := lpN (fun _ _ _ _ _ => none) (bX7_sparedEvents_61 c_room c_told c_events ) n
noncomputable def bX7_sparedEvents_24 (c_room : Int32) (c_told : jT3) (c_events : jT3)  (self : Int32 → jT11 → (Nat → Int32) → Int32 → Int32 → (Option (Int32 × Int32 × jT11 × (Nat → Int32)))) (c_settledByKnown : Int32) (c_trial : jT11) (c_settledBy : Nat → Int32) (i1 : Int32) (i2 : Int32) : Option (Int32 × Int32 × jT11 × (Nat → Int32)) :=
  if c_events.1 ≤ i2 then (
  fX7_sparedEvents_61 c_room c_told c_events jF c_settledByKnown c_trial c_settledBy i1 (0 : Int32))
  else (
  bd4 (fX7_settledWith (i1 &&& (((1 : Int32) <<< (i2 &&& (31 : Int32))) ^^^ (-1 : Int32))) c_room c_told c_events c_settledByKnown c_trial c_settledBy) (fun r_14 c_settledByKnown_15 c_trial_16 c_settledBy_17 =>
  if r_14 = (0 : Int32) then (
  some (((1 : Int32) <<< (i2 &&& (31 : Int32))), c_settledByKnown_15, c_trial_16, c_settledBy_17))
  else (
  nmV (i2 + (1 : Int32)) (fun i2_18 =>
  self c_settledByKnown_15 c_trial_16 c_settledBy_17 i1 i2_18))))
noncomputable def fX7_sparedEvents_24 (c_room : Int32) (c_told : jT3) (c_events : jT3)  (n : Nat) : Int32 → jT11 → (Nat → Int32) → Int32 → Int32 → (Option (Int32 × Int32 × jT11 × (Nat → Int32))) := lpN (fun _ _ _ _ _ => none) (bX7_sparedEvents_24 c_room c_told c_events ) n
noncomputable def fX7_sparedEvents (c_room : Int32) (c_told : jT3) (c_events : jT3) (c_settledByKnown : Int32) (c_trial : jT11) (c_settledBy : Nat → Int32) : Option (Int32 × Int32 × jT11 × (Nat → Int32)) :=
  nmV ((((1 : Int32) <<< (c_events.1 &&& (31 : Int32))) - (1 : Int32))) (fun i1_1 =>
  bd4 (fX7_settledWith i1_1 c_room c_told c_events c_settledByKnown c_trial c_settledBy) (fun r_2 c_settledByKnown_3 c_trial_4 c_settledBy_5 =>
  if r_2 = (0 : Int32) then (
  some ((0 : Int32), c_settledByKnown_3, c_trial_4, c_settledBy_5))
  else (
  fX7_sparedEvents_24 c_room c_told c_events jF c_settledByKnown_3 c_trial_4 c_settledBy_5 i1_1 (0 : Int32))))
noncomputable def fX7_spare (i1 : Int32) (c_room : Int32) (c_told : jT3) (c_events : jT3) (c_settledByKnown : Int32) (c_trial : jT11) (c_settledBy : Nat → Int32) : Option (Int32 × Int32 × jT11 × (Nat → Int32)) :=
  bd1 (fX7_within i1 (-1 : Int32) (1 : Int32)) (fun r_1 =>
  if r_1 = (0 : Int32) then (
  some ((-2 : Int32), c_settledByKnown, c_trial, c_settledBy))
  else (
  bd4 (fX7_sparedEvents c_room c_told c_events c_settledByKnown c_trial c_settledBy) (fun r_2 c_settledByKnown_3 c_trial_4 c_settledBy_5 =>
  if (0 : Int32) ≤ r_2 then (
  if i1 = (-1 : Int32) then (
  bd1 (fJ6_bitCount_0f7a4 r_2) (fun r_7 =>
  some (r_7, c_settledByKnown_3, c_trial_4, c_settledBy_5)))
  else (
  bd1 (fX7_bitPlace r_2 i1) (fun r_6 =>
  some (r_6, c_settledByKnown_3, c_trial_4, c_settledBy_5))))
  else (
  some ((-1 : Int32), c_settledByKnown_3, c_trial_4, c_settledBy_5)))))
noncomputable def fX7_seen (i1 : Int32) (i2 : Int32) (i3 : Int32) (c_seen : jT3) : Option (Int32 × jT3) :=
  bd1 (fX7_isMonth i1) (fun r_1 =>
  if r_1 = (0 : Int32) then (
  some ((-2 : Int32), c_seen))
  else (
  bd1 (fX7_within i2 (0 : Int32) (7 : Int32)) (fun r_2 =>
  if r_2 = (0 : Int32) then (
  some ((-2 : Int32), c_seen))
  else (
  bd1 (fX7_within i3 (-1 : Int32) (12 : Int32)) (fun r_3 =>
  if r_3 = (0 : Int32) then (
  some ((-2 : Int32), c_seen))
  else (
  if c_seen.1 < (8 : Int32) then (
  bd4 (fX3_add i1 i2 i3 c_seen.1 c_seen.2.1 c_seen.2.2.1 c_seen.2.2.2) (fun c_seen_size_4 c_seen_month_5 c_seen_tenant_6 c_seen_floor_7 =>
  some (c_seen_size_4, (c_seen_size_4, c_seen_month_5, c_seen_tenant_6, c_seen_floor_7))))
  else (
  some ((-4 : Int32), c_seen))))))))
noncomputable def fX7_forget (c_seen_size : Int32) : Option (Int32 × Int32) :=
  some (c_seen_size, (0 : Int32))
noncomputable def fX7_never_63 (c_room : Int32) (c_told : jT3) (c_events : jT3) (c_seen : jT3) (q_4 : jT11 → Int32 → Int32 → (Option (Int32 × jT11))) (c_trial : jT11) (i1 : Int32) (i2 : Int32) : Option (Int32 × jT11) :=
  nmV (i2 + (1 : Int32)) (fun i2_14 =>
  q_4 c_trial i1 i2_14)
noncomputable def bX7_never_4 (c_room : Int32) (c_told : jT3) (c_events : jT3) (c_seen : jT3)  (self : jT11 → Int32 → Int32 → (Option (Int32 × jT11))) (c_trial : jT11) (i1 : Int32) (i2 : Int32) : Option (Int32 × jT11) :=
  if c_events.1 ≤ i2 then (
  some (i1, c_trial))
  else (
  bd12 (fX1_run ((255 : Int32) &&& (((1 : Int32) <<< (i2 &&& (31 : Int32))) ^^^ (-1 : Int32))) c_room c_told.1 c_told.2.1 c_told.2.2.1 c_told.2.2.2 c_events.1 c_events.2.1 c_events.2.2.1 c_events.2.2.2 c_trial.1 c_trial.2.1 c_trial.2.2.1 c_trial.2.2.2.1 c_trial.2.2.2.2.1 c_trial.2.2.2.2.2.1 c_trial.2.2.2.2.2.2.1 c_trial.2.2.2.2.2.2.2.1 c_trial.2.2.2.2.2.2.2.2.1 c_trial.2.2.2.2.2.2.2.2.2.1 c_trial.2.2.2.2.2.2.2.2.2.2.1 c_trial.2.2.2.2.2.2.2.2.2.2.2) (fun c_trial_size_1 c_trial_settled_2 c_trial_falls_3 c_trial_passed_4 c_trial_floors_5 c_trial_lefts_6 c_trial_fallers_7 c_trial_floor_8 c_trial_before_9 c_trial_left_10 c_trial_order_11 c_trial_taken_12 =>
  bd1 (fX3_comesOut c_seen.1 c_seen.2.1 c_seen.2.2.1 c_seen.2.2.2 c_trial_size_1 c_trial_floors_5) (fun r_13 =>
  if r_13 = (0 : Int32) then (
  fX7_never_63 c_room c_told c_events c_seen self (c_trial_size_1, c_trial_settled_2, c_trial_falls_3, c_trial_passed_4, c_trial_floors_5, c_trial_lefts_6, c_trial_fallers_7, c_trial_floor_8, c_trial_before_9, c_trial_left_10, c_trial_order_11, c_trial_taken_12) i1 i2)
  else (
  nmV ((i1 ||| ((1 : Int32) <<< (i2 &&& (31 : Int32))))) (fun i1_15 =>
  fX7_never_63 c_room c_told c_events c_seen self (c_trial_size_1, c_trial_settled_2, c_trial_falls_3, c_trial_passed_4, c_trial_floors_5, c_trial_lefts_6, c_trial_fallers_7, c_trial_floor_8, c_trial_before_9, c_trial_left_10, c_trial_order_11, c_trial_taken_12) i1_15 i2)))))
noncomputable def fX7_never_4 (c_room : Int32) (c_told : jT3) (c_events : jT3) (c_seen : jT3)  (n : Nat) : jT11 → Int32 → Int32 → (Option (Int32 × jT11)) := lpN (fun _ _ _ => none) (bX7_never_4 c_room c_told c_events c_seen ) n
noncomputable def fX7_never (c_room : Int32) (c_told : jT3) (c_events : jT3) (c_seen : jT3) (c_trial : jT11) : Option (Int32 × jT11) :=
  fX7_never_4 c_room c_told c_events c_seen jF c_trial (0 : Int32) (0 : Int32)
noncomputable def fX7_seenSorts_72 (i1 : Int32) (c_room : Int32) (c_told : jT3) (c_events : jT3) (c_seen : jT3) (q_15 : jT3 → jT11 → Int32 → Int32 → (Option (Int32 × jT3 × jT11))) (c_others : jT3) (c_trial : jT11) (i2 : Int32) (i3 : Int32) : Option (Int32 × jT3 × jT11) :=
  nmV (i3 + (1 : Int32)) (fun i3_19 =>
  q_15 c_others c_trial i2 i3_19)
noncomputable def bX7_seenSorts_15 (i1 : Int32) (c_room : Int32) (c_told : jT3) (c_events : jT3) (c_seen : jT3)  (self : jT3 → jT11 → Int32 → Int32 → (Option (Int32 × jT3 × jT11))) (c_others : jT3) (c_trial : jT11) (i2 : Int32) (i3 : Int32) : Option (Int32 × jT3 × jT11) :=
  if (4 : Int32) ≤ i3 then (
  some (i2, c_others, c_trial))
  else (
  wrI 8 c_others.2.1 i1 i3 (fun c_others_sort_5 =>
  bd12 (fX1_run (255 : Int32) c_room c_others.1 c_others_sort_5 c_others.2.2.1 c_others.2.2.2 c_events.1 c_events.2.1 c_events.2.2.1 c_events.2.2.2 c_trial.1 c_trial.2.1 c_trial.2.2.1 c_trial.2.2.2.1 c_trial.2.2.2.2.1 c_trial.2.2.2.2.2.1 c_trial.2.2.2.2.2.2.1 c_trial.2.2.2.2.2.2.2.1 c_trial.2.2.2.2.2.2.2.2.1 c_trial.2.2.2.2.2.2.2.2.2.1 c_trial.2.2.2.2.2.2.2.2.2.2.1 c_trial.2.2.2.2.2.2.2.2.2.2.2) (fun c_trial_size_6 c_trial_settled_7 c_trial_falls_8 c_trial_passed_9 c_trial_floors_10 c_trial_lefts_11 c_trial_fallers_12 c_trial_floor_13 c_trial_before_14 c_trial_left_15 c_trial_order_16 c_trial_taken_17 =>
  bd1 (fX3_comesOut c_seen.1 c_seen.2.1 c_seen.2.2.1 c_seen.2.2.2 c_trial_size_6 c_trial_floors_10) (fun r_18 =>
  if r_18 = (0 : Int32) then (
  fX7_seenSorts_72 i1 c_room c_told c_events c_seen self (c_others.1, c_others_sort_5, c_others.2.2.1, c_others.2.2.2) (c_trial_size_6, c_trial_settled_7, c_trial_falls_8, c_trial_passed_9, c_trial_floors_10, c_trial_lefts_11, c_trial_fallers_12, c_trial_floor_13, c_trial_before_14, c_trial_left_15, c_trial_order_16, c_trial_taken_17) i2 i3)
  else (
  nmV ((i2 ||| ((1 : Int32) <<< (i3 &&& (31 : Int32))))) (fun i2_20 =>
  fX7_seenSorts_72 i1 c_room c_told c_events c_seen self (c_others.1, c_others_sort_5, c_others.2.2.1, c_others.2.2.2) (c_trial_size_6, c_trial_settled_7, c_trial_falls_8, c_trial_passed_9, c_trial_floors_10, c_trial_lefts_11, c_trial_fallers_12, c_trial_floor_13, c_trial_before_14, c_trial_left_15, c_trial_order_16, c_trial_taken_17) i2_20 i3))))))
noncomputable def fX7_seenSorts_15 (i1 : Int32) (c_room : Int32) (c_told : jT3) (c_events : jT3) (c_seen : jT3)  (n : Nat) : jT3 → jT11 → Int32 → Int32 → (Option (Int32 × jT3 × jT11)) := lpN (fun _ _ _ _ => none) (bX7_seenSorts_15 i1 c_room c_told c_events c_seen ) n
noncomputable def fX7_seenSorts (i1 : Int32) (c_room : Int32) (c_told : jT3) (c_events : jT3) (c_seen : jT3) (c_others : jT3) (c_trial : jT11) : Option (Int32 × jT3 × jT11) :=
  bd4 (fX5_copyOf c_told.1 c_told.2.1 c_told.2.2.1 c_told.2.2.2 c_others.1 c_others.2.1 c_others.2.2.1 c_others.2.2.2) (fun c_others_size_1 c_others_sort_2 c_others_paid_3 c_others_wage_4 =>
  fX7_seenSorts_15 i1 c_room c_told c_events c_seen jF (c_others_size_1, c_others_sort_2, c_others_paid_3, c_others_wage_4) c_trial (0 : Int32) (0 : Int32))
noncomputable def bX7_seenWages_76 (i1 : Int32) (c_room : Int32) (c_told : jT3) (c_events : jT3) (c_seen : jT3) (q_15 : jT3 → jT11 → (Nat → Int32) → Int32 → Int32 → (Option (Int32 × jT3 × jT11 × (Nat → Int32)))) (self : jT3 → jT11 → (Nat → Int32) → Int32 → Int32 → Int32 → (Option (Int32 × jT3 × jT11 × (Nat → Int32)))) (c_others : jT3) (c_trial : jT11) (c_views : Nat → Int32) (i2 : Int32) (i3 : Int32) (i4 : Int32) : Option (Int32 × jT3 × jT11 × (Nat → Int32)) :=
  if (24 : Int32) ≤ i4 then (
  nmV (i3 + (1 : Int32)) (fun i3_19 =>
  q_15 c_others c_trial c_views i2 i3_19))
  else (
  bd1 (fX1_view i4 c_trial.1 c_trial.2.2.2.2.1) (fun r_20 =>
  wrI 240 c_views ((i3 * (24 : Int32)) + i4) r_20 (fun c_views_21 =>
  nmV (i4 + (1 : Int32)) (fun i4_22 =>
  self c_others c_trial c_views_21 i2 i3 i4_22))))
noncomputable def fX7_seenWages_76 (i1 : Int32) (c_room : Int32) (c_told : jT3) (c_events : jT3) (c_seen : jT3) (q_15 : jT3 → jT11 → (Nat → Int32) → Int32 → Int32 → (Option (Int32 × jT3 × jT11 × (Nat → Int32)))) (n : Nat) : jT3 → jT11 → (Nat → Int32) → Int32 → Int32 → Int32 → (Option (Int32 × jT3 × jT11 × (Nat → Int32))) := lpN (fun _ _ _ _ _ _ => none) (bX7_seenWages_76 i1 c_room c_told c_events c_seen q_15) n
noncomputable def fX7_seenWages_73 (i1 : Int32) (c_room : Int32) (c_told : jT3) (c_events : jT3) (c_seen : jT3) (q_15 : jT3 → jT11 → (Nat → Int32) → Int32 → Int32 → (Option (Int32 × jT3 × jT11 × (Nat → Int32)))) (c_others : jT3) (c_trial : jT11) (c_views : Nat → Int32) (i2 : Int32) (i3 : Int32) : Option (Int32 × jT3 × jT11 × (Nat → Int32)) :=
  fX7_seenWages_76 i1 c_room c_told c_events c_seen q_15 jF c_others c_trial c_views i2 i3 (0 : Int32)
noncomputable def bX7_seenWages_15 (i1 : Int32) (c_room : Int32) (c_told : jT3) (c_events : jT3) (c_seen : jT3)  (self : jT3 → jT11 → (Nat → Int32) → Int32 → Int32 → (Option (Int32 × jT3 × jT11 × (Nat → Int32)))) (c_others : jT3) (c_trial : jT11) (c_views : Nat → Int32) (i2 : Int32) (i3 : Int32) : Option (Int32 × jT3 × jT11 × (Nat → Int32)) :=
  if (10 : Int32) ≤ i3 then (
  some (i2, c_others, c_trial, c_views))
  else (
  wrI 8 c_others.2.2.2 i1 i3 (fun c_others_wage_5 =>
  bd12 (fX1_run (255 : Int32) c_room c_others.1 c_others.2.1 c_others.2.2.1 c_others_wage_5 c_events.1 c_events.2.1 c_events.2.2.1 c_events.2.2.2 c_trial.1 c_trial.2.1 c_trial.2.2.1 c_trial.2.2.2.1 c_trial.2.2.2.2.1 c_trial.2.2.2.2.2.1 c_trial.2.2.2.2.2.2.1 c_trial.2.2.2.2.2.2.2.1 c_trial.2.2.2.2.2.2.2.2.1 c_trial.2.2.2.2.2.2.2.2.2.1 c_trial.2.2.2.2.2.2.2.2.2.2.1 c_trial.2.2.2.2.2.2.2.2.2.2.2) (fun c_trial_size_6 c_trial_settled_7 c_trial_falls_8 c_trial_passed_9 c_trial_floors_10 c_trial_lefts_11 c_trial_fallers_12 c_trial_floor_13 c_trial_before_14 c_trial_left_15 c_trial_order_16 c_trial_taken_17 =>
  bd1 (fX3_comesOut c_seen.1 c_seen.2.1 c_seen.2.2.1 c_seen.2.2.2 c_trial_size_6 c_trial_floors_10) (fun r_18 =>
  if r_18 = (0 : Int32) then (
  fX7_seenWages_73 i1 c_room c_told c_events c_seen self (c_others.1, c_others.2.1, c_others.2.2.1, c_others_wage_5) (c_trial_size_6, c_trial_settled_7, c_trial_falls_8, c_trial_passed_9, c_trial_floors_10, c_trial_lefts_11, c_trial_fallers_12, c_trial_floor_13, c_trial_before_14, c_trial_left_15, c_trial_order_16, c_trial_taken_17) c_views i2 i3)
  else (
  nmV ((i2 ||| ((1 : Int32) <<< (i3 &&& (31 : Int32))))) (fun i2_23 =>
  fX7_seenWages_73 i1 c_room c_told c_events c_seen self (c_others.1, c_others.2.1, c_others.2.2.1, c_others_wage_5) (c_trial_size_6, c_trial_settled_7, c_trial_falls_8, c_trial_passed_9, c_trial_floors_10, c_trial_lefts_11, c_trial_fallers_12, c_trial_floor_13, c_trial_before_14, c_trial_left_15, c_trial_order_16, c_trial_taken_17) c_views i2_23 i3))))))
noncomputable def fX7_seenWages_15 (i1 : Int32) (c_room : Int32) (c_told : jT3) (c_events : jT3) (c_seen : jT3)  (n : Nat) : jT3 → jT11 → (Nat → Int32) → Int32 → Int32 → (Option (Int32 × jT3 × jT11 × (Nat → Int32))) := lpN (fun _ _ _ _ _ => none) (bX7_seenWages_15 i1 c_room c_told c_events c_seen ) n
noncomputable def fX7_seenWages (i1 : Int32) (c_room : Int32) (c_told : jT3) (c_events : jT3) (c_seen : jT3) (c_others : jT3) (c_trial : jT11) (c_views : Nat → Int32) : Option (Int32 × jT3 × jT11 × (Nat → Int32)) :=
  bd4 (fX5_copyOf c_told.1 c_told.2.1 c_told.2.2.1 c_told.2.2.2 c_others.1 c_others.2.1 c_others.2.2.1 c_others.2.2.2) (fun c_others_size_1 c_others_sort_2 c_others_paid_3 c_others_wage_4 =>
  fX7_seenWages_15 i1 c_room c_told c_events c_seen jF (c_others_size_1, c_others_sort_2, c_others_paid_3, c_others_wage_4) c_trial c_views (0 : Int32) (0 : Int32))
noncomputable def fX7_was (i1 : Int32) (i2 : Int32) (c_room : Int32) (c_told : jT3) (c_events : jT3) (c_seen : jT3) (c_others : jT3) (c_trial : jT11) (c_views : Nat → Int32) : Option (Int32 × jT3 × jT11 × (Nat → Int32)) :=
  bd1 (fX7_isTenant i1 c_told.1) (fun r_1 =>
  if r_1 = (0 : Int32) then (
  some ((-2 : Int32), c_others, c_trial, c_views))
  else (
  bd1 (fX7_within i2 (0 : Int32) (1 : Int32)) (fun r_2 =>
  if r_2 = (0 : Int32) then (
  some ((-2 : Int32), c_others, c_trial, c_views))
  else (
  if i2 = (0 : Int32) then (
  bd4 (fX7_seenWages i1 c_room c_told c_events c_seen c_others c_trial c_views) (fun r_6 c_others_7 c_trial_8 c_views_9 =>
  some (r_6, c_others_7, c_trial_8, c_views_9)))
  else (
  bd3 (fX7_seenSorts i1 c_room c_told c_events c_seen c_others c_trial) (fun r_3 c_others_4 c_trial_5 =>
  some (r_3, c_others_4, c_trial_5, c_views)))))))
noncomputable def fX7_greatestAlike_86 (i1 : Int32) (i2 : Int32) (c_views : Nat → Int32) (q_5 : Int32 → Int32 → Option (Int32)) (i3 : Int32) (i4 : Int32) : Option (Int32) :=
  nmV (i4 + (1 : Int32)) (fun i4_1 =>
  q_5 i3 i4_1)
noncomputable def fX7_greatestAlike_64 (i1 : Int32) (i2 : Int32) (c_views : Nat → Int32) (q_5 : Int32 → Int32 → Option (Int32)) (q_18 : Int32 → Int32 → Int32 → Int32 → Option (Int32)) (i3 : Int32) (i4 : Int32) (i5 : Int32) (i6 : Int32) : Option (Int32) :=
  nmV (i6 + (1 : Int32)) (fun i6_3 =>
  q_18 i3 i4 i5 i6_3)
noncomputable def bX7_greatestAlike_18 (i1 : Int32) (i2 : Int32) (c_views : Nat → Int32) (q_5 : Int32 → Int32 → Option (Int32)) (self : Int32 → Int32 → Int32 → Int32 → Option (Int32)) (i3 : Int32) (i4 : Int32) (i5 : Int32) (i6 : Int32) : Option (Int32) :=
  if (10 : Int32) ≤ i6 then (
  if ((i1 >>> (i4 &&& (31 : Int32))) &&& (1 : Int32)) = (0 : Int32) then (
  fX7_greatestAlike_86 i1 i2 c_views q_5 i3 i4)
  else (
  nmV ((if i3 < i5 then i5 else i3)) (fun i3_2 =>
  fX7_greatestAlike_86 i1 i2 c_views q_5 i3_2 i4)))
  else (
  if ((i1 >>> (i6 &&& (31 : Int32))) &&& (1 : Int32)) = (0 : Int32) then (
  fX7_greatestAlike_64 i1 i2 c_views q_5 self i3 i4 i5 i6)
  else (
  rdA 240 c_views ((i6 * (24 : Int32)) + i2) (fun v_4 =>
  rdA 240 c_views ((i4 * (24 : Int32)) + i2) (fun v_5 =>
  if v_4 = v_5 then (
  nmV (i5 + (1 : Int32)) (fun i5_6 =>
  fX7_greatestAlike_64 i1 i2 c_views q_5 self i3 i4 i5_6 i6))
  else (
  fX7_greatestAlike_64 i1 i2 c_views q_5 self i3 i4 i5 i6)))))
noncomputable def fX7_greatestAlike_18 (i1 : Int32) (i2 : Int32) (c_views : Nat → Int32) (q_5 : Int32 → Int32 → Option (Int32)) (n : Nat) : Int32 → Int32 → Int32 → Int32 → Option (Int32) := lpN (fun _ _ _ _ => none) (bX7_greatestAlike_18 i1 i2 c_views q_5) n
noncomputable def bX7_greatestAlike_5 (i1 : Int32) (i2 : Int32) (c_views : Nat → Int32)  (self : Int32 → Int32 → Option (Int32)) (i3 : Int32) (i4 : Int32) : Option (Int32) :=
  if (10 : Int32) ≤ i4 then (
  some (i3))
  else (
  fX7_greatestAlike_18 i1 i2 c_views self jF i3 i4 (0 : Int32) (0 : Int32))
noncomputable def fX7_greatestAlike_5 (i1 : Int32) (i2 : Int32) (c_views : Nat → Int32)  (n : Nat) : Int32 → Int32 → Option (Int32) := lpN (fun _ _ => none) (bX7_greatestAlike_5 i1 i2 c_views ) n
noncomputable def fX7_greatestAlike (i1 : Int32) (i2 : Int32) (c_views : Nat → Int32) : Option (Int32) :=
  fX7_greatestAlike_5 i1 i2 c_views jF (0 : Int32) (0 : Int32)
noncomputable def fX7_ask_56 (i1 : Int32) (c_room : Int32) (c_told : jT3) (c_events : jT3) (c_seen : jT3) (q_26 : jT3 → jT11 → (Nat → Int32) → Int32 → Int32 → Int32 → Int32 → (Option (Int32 × jT3 × jT11 × (Nat → Int32)))) (c_others : jT3) (c_trial : jT11) (c_views : Nat → Int32) (i2 : Int32) (i3 : Int32) (i4 : Int32) (i5 : Int32) : Option (Int32 × jT3 × jT11 × (Nat → Int32)) :=
  nmV (i5 + (1 : Int32)) (fun i5_7 =>
  q_26 c_others c_trial c_views i2 i3 i4 i5_7)
noncomputable def bX7_ask_26 (i1 : Int32) (c_room : Int32) (c_told : jT3) (c_events : jT3) (c_seen : jT3)  (self : jT3 → jT11 → (Nat → Int32) → Int32 → Int32 → Int32 → Int32 → (Option (Int32 × jT3 × jT11 × (Nat → Int32)))) (c_others : jT3) (c_trial : jT11) (c_views : Nat → Int32) (i2 : Int32) (i3 : Int32) (i4 : Int32) (i5 : Int32) : Option (Int32 × jT3 × jT11 × (Nat → Int32)) :=
  if (24 : Int32) ≤ i5 then (
  some (i3, c_others, c_trial, c_views))
  else (
  bd1 (fX7_greatestAlike i2 i5 c_views) (fun r_6 =>
  if i4 ≤ r_6 then (
  fX7_ask_56 i1 c_room c_told c_events c_seen self c_others c_trial c_views i2 i3 i4 i5)
  else (
  fX7_ask_56 i1 c_room c_told c_events c_seen self c_others c_trial c_views i2 i5 r_6 i5)))
noncomputable def fX7_ask_26 (i1 : Int32) (c_room : Int32) (c_told : jT3) (c_events : jT3) (c_seen : jT3)  (n : Nat) : jT3 → jT11 → (Nat → Int32) → Int32 → Int32 → Int32 → Int32 → (Option (Int32 × jT3 × jT11 × (Nat → Int32))) := lpN (fun _ _ _ _ _ _ _ => none) (bX7_ask_26 i1 c_room c_told c_events c_seen ) n
noncomputable def fX7_ask (i1 : Int32) (c_room : Int32) (c_told : jT3) (c_events : jT3) (c_seen : jT3) (c_others : jT3) (c_trial : jT11) (c_views : Nat → Int32) : Option (Int32 × jT3 × jT11 × (Nat → Int32)) :=
  bd1 (fX7_isTenant i1 c_told.1) (fun r_1 =>
  if r_1 = (0 : Int32) then (
  some ((-2 : Int32), c_others, c_trial, c_views))
  else (
  bd4 (fX7_seenWages i1 c_room c_told c_events c_seen c_others c_trial c_views) (fun r_2 c_others_3 c_trial_4 c_views_5 =>
  fX7_ask_26 i1 c_room c_told c_events c_seen jF c_others_3 c_trial_4 c_views_5 r_2 (0 : Int32) (11 : Int32) (0 : Int32))))
noncomputable def fX7_commonDivisor_45 (l0 : Int64) (l2 : Int64)  (l4 : Int64) : Option (Int64) :=
  some ((if l4 < (1 : Int64) then (1 : Int64) else l4))
noncomputable def bX7_commonDivisor_9 (l0 : Int64) (l2 : Int64)  (self : Int64 → Int64 → Int32 → Option (Int64)) (l4 : Int64) (l6 : Int64) (i8 : Int32) : Option (Int64) :=
  if (200 : Int32) ≤ i8 then (
  fX7_commonDivisor_45 l0 l2 l4)
  else (
  if (lg_cmp l6 (0 : Int64)) ≤ (0 : Int32) then (
  fX7_commonDivisor_45 l0 l2 l4)
  else (
  ckZL l6 (
  nmV ((l4 - l4 / l6 * l6)) (fun l9_1 =>
  nmV (i8 + (1 : Int32)) (fun i8_2 =>
  self l6 l9_1 i8_2)))))
noncomputable def fX7_commonDivisor_9 (l0 : Int64) (l2 : Int64)  (n : Nat) : Int64 → Int64 → Int32 → Option (Int64) := lpN (fun _ _ _ => none) (bX7_commonDivisor_9 l0 l2 ) n
noncomputable def fX7_commonDivisor (l0 : Int64) (l2 : Int64) : Option (Int64) :=
  fX7_commonDivisor_9 l0 l2 jF l0 l2 (0 : Int32)
noncomputable def fX7_weight_37 (i1 : Int32) (i2 : Int32) (c_events_size : Int32) (q_5 : Int64 → Int32 → Option (Int64)) (i5 : Int32) (t0 : Int64) (t1 : Int64) : Option (Int64) :=
  nmV ((t1 * t0)) (fun l3_1 =>
  nmV (i5 + (1 : Int32)) (fun i5_2 =>
  q_5 l3_1 i5_2))
noncomputable def bX7_weight_5 (i1 : Int32) (i2 : Int32) (c_events_size : Int32)  (self : Int64 → Int32 → Option (Int64)) (l3 : Int64) (i5 : Int32) : Option (Int64) :=
  if c_events_size ≤ i5 then (
  some (l3))
  else (
  if ((i2 >>> (i5 &&& (31 : Int32))) &&& (1 : Int32)) = (0 : Int32) then (
  fX7_weight_37 i1 i2 c_events_size self i5 (Int32.toInt64 ((16 : Int32) - i1)) l3)
  else (
  fX7_weight_37 i1 i2 c_events_size self i5 (Int32.toInt64 i1) l3))
noncomputable def fX7_weight_5 (i1 : Int32) (i2 : Int32) (c_events_size : Int32)  (n : Nat) : Int64 → Int32 → Option (Int64) := lpN (fun _ _ => none) (bX7_weight_5 i1 i2 c_events_size ) n
noncomputable def fX7_weight (i1 : Int32) (i2 : Int32) (c_events_size : Int32) : Option (Int64) :=
  fX7_weight_5 i1 i2 c_events_size jF (1 : Int64) (0 : Int32)
noncomputable def fX7_chance_89 (i1 : Int32) (i2 : Int32) (i3 : Int32) (c_room : Int32) (c_told : jT3) (c_events : jT3) (q_50 : Int32 → jT11 → (Nat → Int32) → Int64 → Int64 → Int32 → (Option (Int64 × Int32 × jT11 × (Nat → Int32)))) (c_settledByKnown : Int32) (c_trial : jT11) (c_settledBy : Nat → Int32) (l4 : Int64) (l6 : Int64) (i8 : Int32) : Option (Int64 × Int32 × jT11 × (Nat → Int32)) :=
  nmV (i8 + (1 : Int32)) (fun i8_10 =>
  q_50 c_settledByKnown c_trial c_settledBy l4 l6 i8_10)
noncomputable def bX7_chance_50 (i1 : Int32) (i2 : Int32) (i3 : Int32) (c_room : Int32) (c_told : jT3) (c_events : jT3)  (self : Int32 → jT11 → (Nat → Int32) → Int64 → Int64 → Int32 → (Option (Int64 × Int32 × jT11 × (Nat → Int32)))) (c_settledByKnown : Int32) (c_trial : jT11) (c_settledBy : Nat → Int32) (l4 : Int64) (l6 : Int64) (i8 : Int32) : Option (Int64 × Int32 × jT11 × (Nat → Int32)) :=
  if ((1 : Int32) <<< (c_events.1 &&& (31 : Int32))) ≤ i8 then (
  bd1 (fX7_commonDivisor l4 l6) (fun r_5 =>
  if i3 = (0 : Int32) then (
  ckZL r_5 (
  some ((l4 / r_5), c_settledByKnown, c_trial, c_settledBy)))
  else (
  ckZL r_5 (
  some ((l6 / r_5), c_settledByKnown, c_trial, c_settledBy)))))
  else (
  bd4 (fX7_settledWith i8 c_room c_told c_events c_settledByKnown c_trial c_settledBy) (fun r_6 c_settledByKnown_7 c_trial_8 c_settledBy_9 =>
  if ((r_6 >>> (i2 &&& (31 : Int32))) &&& (1 : Int32)) = (0 : Int32) then (
  fX7_chance_89 i1 i2 i3 c_room c_told c_events self c_settledByKnown_7 c_trial_8 c_settledBy_9 l4 l6 i8)
  else (
  bd1 (fX7_weight i1 i8 c_events.1) (fun r_11 =>
  nmV ((l4 + r_11)) (fun l4_12 =>
  fX7_chance_89 i1 i2 i3 c_room c_told c_events self c_settledByKnown_7 c_trial_8 c_settledBy_9 l4_12 l6 i8)))))
noncomputable def fX7_chance_50 (i1 : Int32) (i2 : Int32) (i3 : Int32) (c_room : Int32) (c_told : jT3) (c_events : jT3)  (n : Nat) : Int32 → jT11 → (Nat → Int32) → Int64 → Int64 → Int32 → (Option (Int64 × Int32 × jT11 × (Nat → Int32))) := lpN (fun _ _ _ _ _ _ => none) (bX7_chance_50 i1 i2 i3 c_room c_told c_events ) n
noncomputable def fX7_chance (i1 : Int32) (i2 : Int32) (i3 : Int32) (c_room : Int32) (c_told : jT3) (c_events : jT3) (c_settledByKnown : Int32) (c_trial : jT11) (c_settledBy : Nat → Int32) : Option (Int64 × Int32 × jT11 × (Nat → Int32)) :=
  bd1 (fX7_within i1 (0 : Int32) (16 : Int32)) (fun r_1 =>
  if r_1 = (0 : Int32) then (
  some ((-9223372036854775806 : Int64), c_settledByKnown, c_trial, c_settledBy))
  else (
  bd1 (fX7_isTenant i2 c_told.1) (fun r_2 =>
  if r_2 = (0 : Int32) then (
  some ((-9223372036854775806 : Int64), c_settledByKnown, c_trial, c_settledBy))
  else (
  bd1 (fX7_within i3 (0 : Int32) (1 : Int32)) (fun r_3 =>
  if r_3 = (0 : Int32) then (
  some ((-9223372036854775806 : Int64), c_settledByKnown, c_trial, c_settledBy))
  else (
  nmV (((1 : Int64) <<< (Int32.toInt64 ((4 : Int32) * c_events.1) &&& (63 : Int64)))) (fun l6_4 =>
  fX7_chance_50 i1 i2 i3 c_room c_told c_events jF c_settledByKnown c_trial c_settledBy (0 : Int64) l6_4 (0 : Int32))))))))
noncomputable def fX7_houses (i1 : Int32) (i2 : Int32) (i3 : Int32) (c_room : Int32) (c_events : jT3) (c_others : jT3) (c_trial : jT11) : Option (Int32 × jT3 × jT11) :=
  bd1 (fX7_within i2 (0 : Int32) (8 : Int32)) (fun r_1 =>
  if r_1 = (0 : Int32) then (
  some ((-2 : Int32), c_others, c_trial))
  else (
  bd1 (fX7_within i3 (0 : Int32) (1 : Int32)) (fun r_2 =>
  if r_2 = (0 : Int32) then (
  some ((-2 : Int32), c_others, c_trial))
  else (
  bd4 (fX5_drawLots i1 i2 c_others.1 c_others.2.1 c_others.2.2.1 c_others.2.2.2) (fun c_others_size_3 c_others_sort_4 c_others_paid_5 c_others_wage_6 =>
  bd12 (fX1_run (255 : Int32) c_room c_others_size_3 c_others_sort_4 c_others_paid_5 c_others_wage_6 c_events.1 c_events.2.1 c_events.2.2.1 c_events.2.2.2 c_trial.1 c_trial.2.1 c_trial.2.2.1 c_trial.2.2.2.1 c_trial.2.2.2.2.1 c_trial.2.2.2.2.2.1 c_trial.2.2.2.2.2.2.1 c_trial.2.2.2.2.2.2.2.1 c_trial.2.2.2.2.2.2.2.2.1 c_trial.2.2.2.2.2.2.2.2.2.1 c_trial.2.2.2.2.2.2.2.2.2.2.1 c_trial.2.2.2.2.2.2.2.2.2.2.2) (fun c_trial_size_7 c_trial_settled_8 c_trial_falls_9 c_trial_passed_10 c_trial_floors_11 c_trial_lefts_12 c_trial_fallers_13 c_trial_floor_14 c_trial_before_15 c_trial_left_16 c_trial_order_17 c_trial_taken_18 =>
  if i3 = (0 : Int32) then (
  bd1 (fX1_settledInAll c_trial_size_7 c_trial_settled_8) (fun r_20 =>
  some (r_20, (c_others_size_3, c_others_sort_4, c_others_paid_5, c_others_wage_6), (c_trial_size_7, c_trial_settled_8, c_trial_falls_9, c_trial_passed_10, c_trial_floors_11, c_trial_lefts_12, c_trial_fallers_13, c_trial_floor_14, c_trial_before_15, c_trial_left_16, c_trial_order_17, c_trial_taken_18))))
  else (
  bd1 (fX1_fallsInAll c_trial_size_7 c_trial_falls_9) (fun r_19 =>
  some (r_19, (c_others_size_3, c_others_sort_4, c_others_paid_5, c_others_wage_6), (c_trial_size_7, c_trial_settled_8, c_trial_falls_9, c_trial_passed_10, c_trial_floors_11, c_trial_lefts_12, c_trial_fallers_13, c_trial_floor_14, c_trial_before_15, c_trial_left_16, c_trial_order_17, c_trial_taken_18))))))))))
noncomputable def fX7_sheet (i1 : Int32) (i2 : Int32) (i3 : Int32) (c_finding : Int32) (c_sh0 : jS4) (c_sh1 : jS4) (c_sh2 : jS4) (c_sh3 : jS4) : Option (Int32 × Int32 × jS4 × jS4 × jS4 × jS4) :=
  bd1 (fX7_within i1 (0 : Int32) (3 : Int32)) (fun r_1 =>
  if r_1 = (0 : Int32) then (
  some ((-2 : Int32), c_finding, c_sh0, c_sh1, c_sh2, c_sh3))
  else (
  bd1 (fX7_within i2 (0 : Int32) (2 : Int32)) (fun r_2 =>
  if r_2 = (0 : Int32) then (
  some ((-2 : Int32), c_finding, c_sh0, c_sh1, c_sh2, c_sh3))
  else (
  if i3 ≤ (60 : Int32) then (
  if (0 : Int32) ≤ i3 then (
  sw4 i1
  (bd4 (fX4_renew i2 i3 c_sh0.1 c_sh0.2.1 c_sh0.2.2.1 c_sh0.2.2.2) (fun c_sh0_form_3 c_sh0_size_4 c_sh0_lost_5 c_sh0_items_6 =>
  some (i3, c_finding, (c_sh0_form_3, c_sh0_size_4, c_sh0_lost_5, c_sh0_items_6), c_sh1, c_sh2, c_sh3)))
  (bd4 (fX4_renew i2 i3 c_sh1.1 c_sh1.2.1 c_sh1.2.2.1 c_sh1.2.2.2) (fun c_sh1_form_7 c_sh1_size_8 c_sh1_lost_9 c_sh1_items_10 =>
  some (i3, c_finding, c_sh0, (c_sh1_form_7, c_sh1_size_8, c_sh1_lost_9, c_sh1_items_10), c_sh2, c_sh3)))
  (bd4 (fX4_renew i2 i3 c_sh2.1 c_sh2.2.1 c_sh2.2.2.1 c_sh2.2.2.2) (fun c_sh2_form_11 c_sh2_size_12 c_sh2_lost_13 c_sh2_items_14 =>
  some (i3, c_finding, c_sh0, c_sh1, (c_sh2_form_11, c_sh2_size_12, c_sh2_lost_13, c_sh2_items_14), c_sh3)))
  (bd4 (fX4_renew i2 i3 c_sh3.1 c_sh3.2.1 c_sh3.2.2.1 c_sh3.2.2.2) (fun c_sh3_form_15 c_sh3_size_16 c_sh3_lost_17 c_sh3_items_18 =>
  some (i3, c_finding, c_sh0, c_sh1, c_sh2, (c_sh3_form_15, c_sh3_size_16, c_sh3_lost_17, c_sh3_items_18)))))
  else (
  bd2 (fX7_found (5 : Int32) c_finding) (fun r_19 c_finding_20 =>
  some (r_19, c_finding_20, c_sh0, c_sh1, c_sh2, c_sh3))))
  else (
  some ((-2 : Int32), c_finding, c_sh0, c_sh1, c_sh2, c_sh3))))))
noncomputable def fX7_lose (i1 : Int32) (c_sh0_size : Int32) (c_sh1_size : Int32) (c_sh2_size : Int32) (c_sh3_size : Int32) (c_finding : Int32) (c_sh0_lost : Int32) (c_sh1_lost : Int32) (c_sh2_lost : Int32) (c_sh3_lost : Int32) : Option (Int32 × Int32 × Int32 × Int32 × Int32 × Int32) :=
  bd1 (fX7_within i1 (0 : Int32) (3 : Int32)) (fun r_1 =>
  if r_1 = (0 : Int32) then (
  some ((-2 : Int32), c_finding, c_sh0_lost, c_sh1_lost, c_sh2_lost, c_sh3_lost))
  else (
  sw4 i1
  (if c_sh0_lost = (0 : Int32) then (
  some (c_sh0_size, c_finding, (1 : Int32), c_sh1_lost, c_sh2_lost, c_sh3_lost))
  else (
  bd2 (fX7_found (1 : Int32) c_finding) (fun r_2 c_finding_3 =>
  some (r_2, c_finding_3, c_sh0_lost, c_sh1_lost, c_sh2_lost, c_sh3_lost))))
  (if c_sh1_lost = (0 : Int32) then (
  some (c_sh1_size, c_finding, c_sh0_lost, (1 : Int32), c_sh2_lost, c_sh3_lost))
  else (
  bd2 (fX7_found (1 : Int32) c_finding) (fun r_4 c_finding_5 =>
  some (r_4, c_finding_5, c_sh0_lost, c_sh1_lost, c_sh2_lost, c_sh3_lost))))
  (if c_sh2_lost = (0 : Int32) then (
  some (c_sh2_size, c_finding, c_sh0_lost, c_sh1_lost, (1 : Int32), c_sh3_lost))
  else (
  bd2 (fX7_found (1 : Int32) c_finding) (fun r_6 c_finding_7 =>
  some (r_6, c_finding_7, c_sh0_lost, c_sh1_lost, c_sh2_lost, c_sh3_lost))))
  (if c_sh3_lost = (0 : Int32) then (
  some (c_sh3_size, c_finding, c_sh0_lost, c_sh1_lost, c_sh2_lost, (1 : Int32)))
  else (
  bd2 (fX7_found (1 : Int32) c_finding) (fun r_8 c_finding_9 =>
  some (r_8, c_finding_9, c_sh0_lost, c_sh1_lost, c_sh2_lost, c_sh3_lost))))))
noncomputable def fX7_lay (i1 : Int32) (i2 : Int32) (i3 : Int32) (i4 : Int32) (c_finding : Int32) (c_sh0 : jS4) (c_sh1 : jS4) (c_sh2 : jS4) (c_sh3 : jS4) : Option (Int32 × Int32 × jS4 × jS4 × jS4 × jS4) :=
  bd1 (fX7_within i1 (0 : Int32) (3 : Int32)) (fun r_1 =>
  if r_1 = (0 : Int32) then (
  some ((-2 : Int32), c_finding, c_sh0, c_sh1, c_sh2, c_sh3))
  else (
  bd1 (fX7_within i2 (0 : Int32) (2 : Int32)) (fun r_2 =>
  if r_2 = (0 : Int32) then (
  some ((-2 : Int32), c_finding, c_sh0, c_sh1, c_sh2, c_sh3))
  else (
  sw4 i1
  (bd1 (fX4_flaw i2 i3 c_sh0.1 c_sh0.2.1 c_sh0.2.2.1) (fun r_3 =>
  if r_3 = (0 : Int32) then (
  bd1 (fX4_put i3 i4 c_sh0.1 c_sh0.2.2.2) (fun c_sh0_items_4 =>
  some ((1 : Int32), c_finding, (c_sh0.1, c_sh0.2.1, c_sh0.2.2.1, c_sh0_items_4), c_sh1, c_sh2, c_sh3)))
  else (
  bd2 (fX7_found r_3 c_finding) (fun r_5 c_finding_6 =>
  some (r_5, c_finding_6, c_sh0, c_sh1, c_sh2, c_sh3)))))
  (bd1 (fX4_flaw i2 i3 c_sh1.1 c_sh1.2.1 c_sh1.2.2.1) (fun r_7 =>
  if r_7 = (0 : Int32) then (
  bd1 (fX4_put i3 i4 c_sh1.1 c_sh1.2.2.2) (fun c_sh1_items_8 =>
  some ((1 : Int32), c_finding, c_sh0, (c_sh1.1, c_sh1.2.1, c_sh1.2.2.1, c_sh1_items_8), c_sh2, c_sh3)))
  else (
  bd2 (fX7_found r_7 c_finding) (fun r_9 c_finding_10 =>
  some (r_9, c_finding_10, c_sh0, c_sh1, c_sh2, c_sh3)))))
  (bd1 (fX4_flaw i2 i3 c_sh2.1 c_sh2.2.1 c_sh2.2.2.1) (fun r_11 =>
  if r_11 = (0 : Int32) then (
  bd1 (fX4_put i3 i4 c_sh2.1 c_sh2.2.2.2) (fun c_sh2_items_12 =>
  some ((1 : Int32), c_finding, c_sh0, c_sh1, (c_sh2.1, c_sh2.2.1, c_sh2.2.2.1, c_sh2_items_12), c_sh3)))
  else (
  bd2 (fX7_found r_11 c_finding) (fun r_13 c_finding_14 =>
  some (r_13, c_finding_14, c_sh0, c_sh1, c_sh2, c_sh3)))))
  (bd1 (fX4_flaw i2 i3 c_sh3.1 c_sh3.2.1 c_sh3.2.2.1) (fun r_15 =>
  if r_15 = (0 : Int32) then (
  bd1 (fX4_put i3 i4 c_sh3.1 c_sh3.2.2.2) (fun c_sh3_items_16 =>
  some ((1 : Int32), c_finding, c_sh0, c_sh1, c_sh2, (c_sh3.1, c_sh3.2.1, c_sh3.2.2.1, c_sh3_items_16))))
  else (
  bd2 (fX7_found r_15 c_finding) (fun r_17 c_finding_18 =>
  some (r_17, c_finding_18, c_sh0, c_sh1, c_sh2, c_sh3)))))))))
noncomputable def fX7_get (i1 : Int32) (i2 : Int32) (i3 : Int32) (c_sh0 : jS4) (c_sh1 : jS4) (c_sh2 : jS4) (c_sh3 : jS4) (c_finding : Int32) : Option (Int32 × Int32) :=
  bd1 (fX7_within i1 (0 : Int32) (3 : Int32)) (fun r_1 =>
  if r_1 = (0 : Int32) then (
  some ((-2147483648 : Int32), c_finding))
  else (
  bd1 (fX7_within i2 (0 : Int32) (2 : Int32)) (fun r_2 =>
  if r_2 = (0 : Int32) then (
  some ((-2147483648 : Int32), c_finding))
  else (
  sw4 i1
  (bd1 (fX4_flaw i2 i3 c_sh0.1 c_sh0.2.1 c_sh0.2.2.1) (fun r_3 =>
  if r_3 = (0 : Int32) then (
  rdA 60 c_sh0.2.2.2 i3 (fun v_4 =>
  some (v_4, c_finding)))
  else (
  some ((-2147483648 : Int32), r_3))))
  (bd1 (fX4_flaw i2 i3 c_sh1.1 c_sh1.2.1 c_sh1.2.2.1) (fun r_5 =>
  if r_5 = (0 : Int32) then (
  rdA 60 c_sh1.2.2.2 i3 (fun v_6 =>
  some (v_6, c_finding)))
  else (
  some ((-2147483648 : Int32), r_5))))
  (bd1 (fX4_flaw i2 i3 c_sh2.1 c_sh2.2.1 c_sh2.2.2.1) (fun r_7 =>
  if r_7 = (0 : Int32) then (
  rdA 60 c_sh2.2.2.2 i3 (fun v_8 =>
  some (v_8, c_finding)))
  else (
  some ((-2147483648 : Int32), r_7))))
  (bd1 (fX4_flaw i2 i3 c_sh3.1 c_sh3.2.1 c_sh3.2.2.1) (fun r_9 =>
  if r_9 = (0 : Int32) then (
  rdA 60 c_sh3.2.2.2 i3 (fun v_10 =>
  some (v_10, c_finding)))
  else (
  some ((-2147483648 : Int32), r_9))))))))
noncomputable def fX7_copy_53 (i1 : Int32) (i2 : Int32) (i3 : Int32) (i4 : Int32) (i5 : Int32)  (c_finding : Int32) (c_sh0 : jS4) (c_sh1 : jS4) (c_sh2 : jS4) (c_sh3 : jS4) : Option (Int32 × Int32 × jS4 × jS4 × jS4 × jS4) :=
  bd2 (fX7_found (1 : Int32) c_finding) (fun r_3 c_finding_4 =>
  some (r_3, c_finding_4, c_sh0, c_sh1, c_sh2, c_sh3))
noncomputable def fX7_copy_101 (i1 : Int32) (i2 : Int32) (i3 : Int32) (i4 : Int32) (i5 : Int32)  (c_finding : Int32) (c_sh0 : jS4) (c_sh1 : jS4) (c_sh2 : jS4) (c_sh3 : jS4) : Option (Int32 × Int32 × jS4 × jS4 × jS4 × jS4) :=
  bd2 (fX7_found (2 : Int32) c_finding) (fun r_6 c_finding_7 =>
  some (r_6, c_finding_7, c_sh0, c_sh1, c_sh2, c_sh3))
noncomputable def fX7_copy_53_v1 (i1 : Int32) (i2 : Int32) (i3 : Int32) (i4 : Int32) (i5 : Int32)  (c_finding : Int32) (c_sh0 : jS4) (c_sh1 : jS4) (c_sh2 : jS4) (c_sh3 : jS4) : Option (Int32 × Int32 × jS4 × jS4 × jS4 × jS4) :=
  bd2 (fX7_found (1 : Int32) c_finding) (fun r_12 c_finding_13 =>
  some (r_12, c_finding_13, c_sh0, c_sh1, c_sh2, c_sh3))
noncomputable def fX7_copy_101_v1 (i1 : Int32) (i2 : Int32) (i3 : Int32) (i4 : Int32) (i5 : Int32)  (c_finding : Int32) (c_sh0 : jS4) (c_sh1 : jS4) (c_sh2 : jS4) (c_sh3 : jS4) : Option (Int32 × Int32 × jS4 × jS4 × jS4 × jS4) :=
  bd2 (fX7_found (2 : Int32) c_finding) (fun r_15 c_finding_16 =>
  some (r_15, c_finding_16, c_sh0, c_sh1, c_sh2, c_sh3))
noncomputable def fX7_copy_53_v2 (i1 : Int32) (i2 : Int32) (i3 : Int32) (i4 : Int32) (i5 : Int32)  (c_finding : Int32) (c_sh0 : jS4) (c_sh1 : jS4) (c_sh2 : jS4) (c_sh3 : jS4) : Option (Int32 × Int32 × jS4 × jS4 × jS4 × jS4) :=
  bd2 (fX7_found (1 : Int32) c_finding) (fun r_21 c_finding_22 =>
  some (r_21, c_finding_22, c_sh0, c_sh1, c_sh2, c_sh3))
noncomputable def fX7_copy_101_v2 (i1 : Int32) (i2 : Int32) (i3 : Int32) (i4 : Int32) (i5 : Int32)  (c_finding : Int32) (c_sh0 : jS4) (c_sh1 : jS4) (c_sh2 : jS4) (c_sh3 : jS4) : Option (Int32 × Int32 × jS4 × jS4 × jS4 × jS4) :=
  bd2 (fX7_found (2 : Int32) c_finding) (fun r_24 c_finding_25 =>
  some (r_24, c_finding_25, c_sh0, c_sh1, c_sh2, c_sh3))
noncomputable def fX7_copy_53_v3 (i1 : Int32) (i2 : Int32) (i3 : Int32) (i4 : Int32) (i5 : Int32)  (c_finding : Int32) (c_sh0 : jS4) (c_sh1 : jS4) (c_sh2 : jS4) (c_sh3 : jS4) : Option (Int32 × Int32 × jS4 × jS4 × jS4 × jS4) :=
  bd2 (fX7_found (1 : Int32) c_finding) (fun r_30 c_finding_31 =>
  some (r_30, c_finding_31, c_sh0, c_sh1, c_sh2, c_sh3))
noncomputable def fX7_copy_101_v3 (i1 : Int32) (i2 : Int32) (i3 : Int32) (i4 : Int32) (i5 : Int32)  (c_finding : Int32) (c_sh0 : jS4) (c_sh1 : jS4) (c_sh2 : jS4) (c_sh3 : jS4) : Option (Int32 × Int32 × jS4 × jS4 × jS4 × jS4) :=
  bd2 (fX7_found (2 : Int32) c_finding) (fun r_33 c_finding_34 =>
  some (r_33, c_finding_34, c_sh0, c_sh1, c_sh2, c_sh3))
noncomputable def fX7_copy_53_v4 (i1 : Int32) (i2 : Int32) (i3 : Int32) (i4 : Int32) (i5 : Int32)  (c_finding : Int32) (c_sh0 : jS4) (c_sh1 : jS4) (c_sh2 : jS4) (c_sh3 : jS4) : Option (Int32 × Int32 × jS4 × jS4 × jS4 × jS4) :=
  bd2 (fX7_found (1 : Int32) c_finding) (fun r_39 c_finding_40 =>
  some (r_39, c_finding_40, c_sh0, c_sh1, c_sh2, c_sh3))
noncomputable def fX7_copy_101_v4 (i1 : Int32) (i2 : Int32) (i3 : Int32) (i4 : Int32) (i5 : Int32)  (c_finding : Int32) (c_sh0 : jS4) (c_sh1 : jS4) (c_sh2 : jS4) (c_sh3 : jS4) : Option (Int32 × Int32 × jS4 × jS4 × jS4 × jS4) :=
  bd2 (fX7_found (2 : Int32) c_finding) (fun r_42 c_finding_43 =>
  some (r_42, c_finding_43, c_sh0, c_sh1, c_sh2, c_sh3))
noncomputable def fX7_copy_53_v5 (i1 : Int32) (i2 : Int32) (i3 : Int32) (i4 : Int32) (i5 : Int32)  (c_finding : Int32) (c_sh0 : jS4) (c_sh1 : jS4) (c_sh2 : jS4) (c_sh3 : jS4) : Option (Int32 × Int32 × jS4 × jS4 × jS4 × jS4) :=
  bd2 (fX7_found (1 : Int32) c_finding) (fun r_48 c_finding_49 =>
  some (r_48, c_finding_49, c_sh0, c_sh1, c_sh2, c_sh3))
noncomputable def fX7_copy_101_v5 (i1 : Int32) (i2 : Int32) (i3 : Int32) (i4 : Int32) (i5 : Int32)  (c_finding : Int32) (c_sh0 : jS4) (c_sh1 : jS4) (c_sh2 : jS4) (c_sh3 : jS4) : Option (Int32 × Int32 × jS4 × jS4 × jS4 × jS4) :=
  bd2 (fX7_found (2 : Int32) c_finding) (fun r_51 c_finding_52 =>
  some (r_51, c_finding_52, c_sh0, c_sh1, c_sh2, c_sh3))
noncomputable def fX7_copy_53_v6 (i1 : Int32) (i2 : Int32) (i3 : Int32) (i4 : Int32) (i5 : Int32)  (c_finding : Int32) (c_sh0 : jS4) (c_sh1 : jS4) (c_sh2 : jS4) (c_sh3 : jS4) : Option (Int32 × Int32 × jS4 × jS4 × jS4 × jS4) :=
  bd2 (fX7_found (1 : Int32) c_finding) (fun r_57 c_finding_58 =>
  some (r_57, c_finding_58, c_sh0, c_sh1, c_sh2, c_sh3))
noncomputable def fX7_copy_101_v6 (i1 : Int32) (i2 : Int32) (i3 : Int32) (i4 : Int32) (i5 : Int32)  (c_finding : Int32) (c_sh0 : jS4) (c_sh1 : jS4) (c_sh2 : jS4) (c_sh3 : jS4) : Option (Int32 × Int32 × jS4 × jS4 × jS4 × jS4) :=
  bd2 (fX7_found (2 : Int32) c_finding) (fun r_60 c_finding_61 =>
  some (r_60, c_finding_61, c_sh0, c_sh1, c_sh2, c_sh3))
noncomputable def fX7_copy_53_v7 (i1 : Int32) (i2 : Int32) (i3 : Int32) (i4 : Int32) (i5 : Int32)  (c_finding : Int32) (c_sh0 : jS4) (c_sh1 : jS4) (c_sh2 : jS4) (c_sh3 : jS4) : Option (Int32 × Int32 × jS4 × jS4 × jS4 × jS4) :=
  bd2 (fX7_found (1 : Int32) c_finding) (fun r_66 c_finding_67 =>
  some (r_66, c_finding_67, c_sh0, c_sh1, c_sh2, c_sh3))
noncomputable def fX7_copy_101_v7 (i1 : Int32) (i2 : Int32) (i3 : Int32) (i4 : Int32) (i5 : Int32)  (c_finding : Int32) (c_sh0 : jS4) (c_sh1 : jS4) (c_sh2 : jS4) (c_sh3 : jS4) : Option (Int32 × Int32 × jS4 × jS4 × jS4 × jS4) :=
  bd2 (fX7_found (2 : Int32) c_finding) (fun r_69 c_finding_70 =>
  some (r_69, c_finding_70, c_sh0, c_sh1, c_sh2, c_sh3))
noncomputable def fX7_copy_53_v8 (i1 : Int32) (i2 : Int32) (i3 : Int32) (i4 : Int32) (i5 : Int32)  (c_finding : Int32) (c_sh0 : jS4) (c_sh1 : jS4) (c_sh2 : jS4) (c_sh3 : jS4) : Option (Int32 × Int32 × jS4 × jS4 × jS4 × jS4) :=
  bd2 (fX7_found (1 : Int32) c_finding) (fun r_75 c_finding_76 =>
  some (r_75, c_finding_76, c_sh0, c_sh1, c_sh2, c_sh3))
noncomputable def fX7_copy_101_v8 (i1 : Int32) (i2 : Int32) (i3 : Int32) (i4 : Int32) (i5 : Int32)  (c_finding : Int32) (c_sh0 : jS4) (c_sh1 : jS4) (c_sh2 : jS4) (c_sh3 : jS4) : Option (Int32 × Int32 × jS4 × jS4 × jS4 × jS4) :=
  bd2 (fX7_found (2 : Int32) c_finding) (fun r_78 c_finding_79 =>
  some (r_78, c_finding_79, c_sh0, c_sh1, c_sh2, c_sh3))
noncomputable def fX7_copy_53_v9 (i1 : Int32) (i2 : Int32) (i3 : Int32) (i4 : Int32) (i5 : Int32)  (c_finding : Int32) (c_sh0 : jS4) (c_sh1 : jS4) (c_sh2 : jS4) (c_sh3 : jS4) : Option (Int32 × Int32 × jS4 × jS4 × jS4 × jS4) :=
  bd2 (fX7_found (1 : Int32) c_finding) (fun r_84 c_finding_85 =>
  some (r_84, c_finding_85, c_sh0, c_sh1, c_sh2, c_sh3))
noncomputable def fX7_copy_101_v9 (i1 : Int32) (i2 : Int32) (i3 : Int32) (i4 : Int32) (i5 : Int32)  (c_finding : Int32) (c_sh0 : jS4) (c_sh1 : jS4) (c_sh2 : jS4) (c_sh3 : jS4) : Option (Int32 × Int32 × jS4 × jS4 × jS4 × jS4) :=
  bd2 (fX7_found (2 : Int32) c_finding) (fun r_87 c_finding_88 =>
  some (r_87, c_finding_88, c_sh0, c_sh1, c_sh2, c_sh3))
noncomputable def fX7_copy_53_v10 (i1 : Int32) (i2 : Int32) (i3 : Int32) (i4 : Int32) (i5 : Int32)  (c_finding : Int32) (c_sh0 : jS4) (c_sh1 : jS4) (c_sh2 : jS4) (c_sh3 : jS4) : Option (Int32 × Int32 × jS4 × jS4 × jS4 × jS4) :=
  bd2 (fX7_found (1 : Int32) c_finding) (fun r_93 c_finding_94 =>
  some (r_93, c_finding_94, c_sh0, c_sh1, c_sh2, c_sh3))
noncomputable def fX7_copy_101_v10 (i1 : Int32) (i2 : Int32) (i3 : Int32) (i4 : Int32) (i5 : Int32)  (c_finding : Int32) (c_sh0 : jS4) (c_sh1 : jS4) (c_sh2 : jS4) (c_sh3 : jS4) : Option (Int32 × Int32 × jS4 × jS4 × jS4 × jS4) :=
  bd2 (fX7_found (2 : Int32) c_finding) (fun r_96 c_finding_97 =>
  some (r_96, c_finding_97, c_sh0, c_sh1, c_sh2, c_sh3))
noncomputable def fX7_copy_53_v11 (i1 : Int32) (i2 : Int32) (i3 : Int32) (i4 : Int32) (i5 : Int32)  (c_finding : Int32) (c_sh0 : jS4) (c_sh1 : jS4) (c_sh2 : jS4) (c_sh3 : jS4) : Option (Int32 × Int32 × jS4 × jS4 × jS4 × jS4) :=
  bd2 (fX7_found (1 : Int32) c_finding) (fun r_102 c_finding_103 =>
  some (r_102, c_finding_103, c_sh0, c_sh1, c_sh2, c_sh3))
noncomputable def fX7_copy_101_v11 (i1 : Int32) (i2 : Int32) (i3 : Int32) (i4 : Int32) (i5 : Int32)  (c_finding : Int32) (c_sh0 : jS4) (c_sh1 : jS4) (c_sh2 : jS4) (c_sh3 : jS4) : Option (Int32 × Int32 × jS4 × jS4 × jS4 × jS4) :=
  bd2 (fX7_found (2 : Int32) c_finding) (fun r_105 c_finding_106 =>
  some (r_105, c_finding_106, c_sh0, c_sh1, c_sh2, c_sh3))
noncomputable def fX7_copy_53_v12 (i1 : Int32) (i2 : Int32) (i3 : Int32) (i4 : Int32) (i5 : Int32)  (c_finding : Int32) (c_sh0 : jS4) (c_sh1 : jS4) (c_sh2 : jS4) (c_sh3 : jS4) : Option (Int32 × Int32 × jS4 × jS4 × jS4 × jS4) :=
  bd2 (fX7_found (1 : Int32) c_finding) (fun r_111 c_finding_112 =>
  some (r_111, c_finding_112, c_sh0, c_sh1, c_sh2, c_sh3))
noncomputable def fX7_copy_101_v12 (i1 : Int32) (i2 : Int32) (i3 : Int32) (i4 : Int32) (i5 : Int32)  (c_finding : Int32) (c_sh0 : jS4) (c_sh1 : jS4) (c_sh2 : jS4) (c_sh3 : jS4) : Option (Int32 × Int32 × jS4 × jS4 × jS4 × jS4) :=
  bd2 (fX7_found (2 : Int32) c_finding) (fun r_114 c_finding_115 =>
  some (r_114, c_finding_115, c_sh0, c_sh1, c_sh2, c_sh3))
noncomputable def fX7_copy_53_v13 (i1 : Int32) (i2 : Int32) (i3 : Int32) (i4 : Int32) (i5 : Int32)  (c_finding : Int32) (c_sh0 : jS4) (c_sh1 : jS4) (c_sh2 : jS4) (c_sh3 : jS4) : Option (Int32 × Int32 × jS4 × jS4 × jS4 × jS4) :=
  bd2 (fX7_found (1 : Int32) c_finding) (fun r_120 c_finding_121 =>
  some (r_120, c_finding_121, c_sh0, c_sh1, c_sh2, c_sh3))
noncomputable def fX7_copy_101_v13 (i1 : Int32) (i2 : Int32) (i3 : Int32) (i4 : Int32) (i5 : Int32)  (c_finding : Int32) (c_sh0 : jS4) (c_sh1 : jS4) (c_sh2 : jS4) (c_sh3 : jS4) : Option (Int32 × Int32 × jS4 × jS4 × jS4 × jS4) :=
  bd2 (fX7_found (2 : Int32) c_finding) (fun r_123 c_finding_124 =>
  some (r_123, c_finding_124, c_sh0, c_sh1, c_sh2, c_sh3))
noncomputable def fX7_copy_53_v14 (i1 : Int32) (i2 : Int32) (i3 : Int32) (i4 : Int32) (i5 : Int32)  (c_finding : Int32) (c_sh0 : jS4) (c_sh1 : jS4) (c_sh2 : jS4) (c_sh3 : jS4) : Option (Int32 × Int32 × jS4 × jS4 × jS4 × jS4) :=
  bd2 (fX7_found (1 : Int32) c_finding) (fun r_129 c_finding_130 =>
  some (r_129, c_finding_130, c_sh0, c_sh1, c_sh2, c_sh3))
noncomputable def fX7_copy_101_v14 (i1 : Int32) (i2 : Int32) (i3 : Int32) (i4 : Int32) (i5 : Int32)  (c_finding : Int32) (c_sh0 : jS4) (c_sh1 : jS4) (c_sh2 : jS4) (c_sh3 : jS4) : Option (Int32 × Int32 × jS4 × jS4 × jS4 × jS4) :=
  bd2 (fX7_found (2 : Int32) c_finding) (fun r_132 c_finding_133 =>
  some (r_132, c_finding_133, c_sh0, c_sh1, c_sh2, c_sh3))
noncomputable def fX7_copy_53_v15 (i1 : Int32) (i2 : Int32) (i3 : Int32) (i4 : Int32) (i5 : Int32)  (c_finding : Int32) (c_sh0 : jS4) (c_sh1 : jS4) (c_sh2 : jS4) (c_sh3 : jS4) : Option (Int32 × Int32 × jS4 × jS4 × jS4 × jS4) :=
  bd2 (fX7_found (1 : Int32) c_finding) (fun r_138 c_finding_139 =>
  some (r_138, c_finding_139, c_sh0, c_sh1, c_sh2, c_sh3))
noncomputable def fX7_copy_101_v15 (i1 : Int32) (i2 : Int32) (i3 : Int32) (i4 : Int32) (i5 : Int32)  (c_finding : Int32) (c_sh0 : jS4) (c_sh1 : jS4) (c_sh2 : jS4) (c_sh3 : jS4) : Option (Int32 × Int32 × jS4 × jS4 × jS4 × jS4) :=
  bd2 (fX7_found (2 : Int32) c_finding) (fun r_141 c_finding_142 =>
  some (r_141, c_finding_142, c_sh0, c_sh1, c_sh2, c_sh3))
noncomputable def fX7_copy (i1 : Int32) (i2 : Int32) (i3 : Int32) (i4 : Int32) (i5 : Int32) (c_finding : Int32) (c_sh0 : jS4) (c_sh1 : jS4) (c_sh2 : jS4) (c_sh3 : jS4) : Option (Int32 × Int32 × jS4 × jS4 × jS4 × jS4) :=
  bd1 (fX7_within i1 (0 : Int32) (3 : Int32)) (fun r_1 =>
  if r_1 = (0 : Int32) then (
  some ((-2 : Int32), c_finding, c_sh0, c_sh1, c_sh2, c_sh3))
  else (
  bd1 (fX7_within i3 (0 : Int32) (3 : Int32)) (fun r_2 =>
  if r_2 = (0 : Int32) then (
  some ((-2 : Int32), c_finding, c_sh0, c_sh1, c_sh2, c_sh3))
  else (
  sw4 i1
  (sw4 i3
  (if c_sh0.2.2.1 = (0 : Int32) then (
  if c_sh0.2.2.1 = (0 : Int32) then (
  if c_sh0.1 = c_sh0.1 then (
  bd1 (fX4_hasSpan i2 i5 c_sh0.2.1) (fun r_5 =>
  if r_5 = (0 : Int32) then (
  fX7_copy_101 i1 i2 i3 i4 i5 c_finding c_sh0 c_sh1 c_sh2 c_sh3)
  else (
  bd1 (fX4_hasSpan i4 i5 c_sh0.2.1) (fun r_8 =>
  if r_8 = (0 : Int32) then (
  fX7_copy_101 i1 i2 i3 i4 i5 c_finding c_sh0 c_sh1 c_sh2 c_sh3)
  else (
  cpI 60 60 c_sh0.2.2.2 c_sh0.2.2.2 i2 i4 i5 (fun c_sh0_items_9 =>
  some ((1 : Int32), c_finding, (c_sh0.1, c_sh0.2.1, c_sh0.2.2.1, c_sh0_items_9), c_sh1, c_sh2, c_sh3)))))))
  else (
  bd2 (fX7_found (4 : Int32) c_finding) (fun r_10 c_finding_11 =>
  some (r_10, c_finding_11, c_sh0, c_sh1, c_sh2, c_sh3))))
  else (
  fX7_copy_53 i1 i2 i3 i4 i5 c_finding c_sh0 c_sh1 c_sh2 c_sh3))
  else (
  fX7_copy_53 i1 i2 i3 i4 i5 c_finding c_sh0 c_sh1 c_sh2 c_sh3))
  (if c_sh0.2.2.1 = (0 : Int32) then (
  if c_sh1.2.2.1 = (0 : Int32) then (
  if c_sh0.1 = c_sh1.1 then (
  bd1 (fX4_hasSpan i2 i5 c_sh0.2.1) (fun r_14 =>
  if r_14 = (0 : Int32) then (
  fX7_copy_101_v1 i1 i2 i3 i4 i5 c_finding c_sh0 c_sh1 c_sh2 c_sh3)
  else (
  bd1 (fX4_hasSpan i4 i5 c_sh1.2.1) (fun r_17 =>
  if r_17 = (0 : Int32) then (
  fX7_copy_101_v1 i1 i2 i3 i4 i5 c_finding c_sh0 c_sh1 c_sh2 c_sh3)
  else (
  cpI 60 60 c_sh0.2.2.2 c_sh1.2.2.2 i2 i4 i5 (fun c_sh1_items_18 =>
  some ((1 : Int32), c_finding, c_sh0, (c_sh1.1, c_sh1.2.1, c_sh1.2.2.1, c_sh1_items_18), c_sh2, c_sh3)))))))
  else (
  bd2 (fX7_found (4 : Int32) c_finding) (fun r_19 c_finding_20 =>
  some (r_19, c_finding_20, c_sh0, c_sh1, c_sh2, c_sh3))))
  else (
  fX7_copy_53_v1 i1 i2 i3 i4 i5 c_finding c_sh0 c_sh1 c_sh2 c_sh3))
  else (
  fX7_copy_53_v1 i1 i2 i3 i4 i5 c_finding c_sh0 c_sh1 c_sh2 c_sh3))
  (if c_sh0.2.2.1 = (0 : Int32) then (
  if c_sh2.2.2.1 = (0 : Int32) then (
  if c_sh0.1 = c_sh2.1 then (
  bd1 (fX4_hasSpan i2 i5 c_sh0.2.1) (fun r_23 =>
  if r_23 = (0 : Int32) then (
  fX7_copy_101_v2 i1 i2 i3 i4 i5 c_finding c_sh0 c_sh1 c_sh2 c_sh3)
  else (
  bd1 (fX4_hasSpan i4 i5 c_sh2.2.1) (fun r_26 =>
  if r_26 = (0 : Int32) then (
  fX7_copy_101_v2 i1 i2 i3 i4 i5 c_finding c_sh0 c_sh1 c_sh2 c_sh3)
  else (
  cpI 60 60 c_sh0.2.2.2 c_sh2.2.2.2 i2 i4 i5 (fun c_sh2_items_27 =>
  some ((1 : Int32), c_finding, c_sh0, c_sh1, (c_sh2.1, c_sh2.2.1, c_sh2.2.2.1, c_sh2_items_27), c_sh3)))))))
  else (
  bd2 (fX7_found (4 : Int32) c_finding) (fun r_28 c_finding_29 =>
  some (r_28, c_finding_29, c_sh0, c_sh1, c_sh2, c_sh3))))
  else (
  fX7_copy_53_v2 i1 i2 i3 i4 i5 c_finding c_sh0 c_sh1 c_sh2 c_sh3))
  else (
  fX7_copy_53_v2 i1 i2 i3 i4 i5 c_finding c_sh0 c_sh1 c_sh2 c_sh3))
  (if c_sh0.2.2.1 = (0 : Int32) then (
  if c_sh3.2.2.1 = (0 : Int32) then (
  if c_sh0.1 = c_sh3.1 then (
  bd1 (fX4_hasSpan i2 i5 c_sh0.2.1) (fun r_32 =>
  if r_32 = (0 : Int32) then (
  fX7_copy_101_v3 i1 i2 i3 i4 i5 c_finding c_sh0 c_sh1 c_sh2 c_sh3)
  else (
  bd1 (fX4_hasSpan i4 i5 c_sh3.2.1) (fun r_35 =>
  if r_35 = (0 : Int32) then (
  fX7_copy_101_v3 i1 i2 i3 i4 i5 c_finding c_sh0 c_sh1 c_sh2 c_sh3)
  else (
  cpI 60 60 c_sh0.2.2.2 c_sh3.2.2.2 i2 i4 i5 (fun c_sh3_items_36 =>
  some ((1 : Int32), c_finding, c_sh0, c_sh1, c_sh2, (c_sh3.1, c_sh3.2.1, c_sh3.2.2.1, c_sh3_items_36))))))))
  else (
  bd2 (fX7_found (4 : Int32) c_finding) (fun r_37 c_finding_38 =>
  some (r_37, c_finding_38, c_sh0, c_sh1, c_sh2, c_sh3))))
  else (
  fX7_copy_53_v3 i1 i2 i3 i4 i5 c_finding c_sh0 c_sh1 c_sh2 c_sh3))
  else (
  fX7_copy_53_v3 i1 i2 i3 i4 i5 c_finding c_sh0 c_sh1 c_sh2 c_sh3)))
  (sw4 i3
  (if c_sh1.2.2.1 = (0 : Int32) then (
  if c_sh0.2.2.1 = (0 : Int32) then (
  if c_sh1.1 = c_sh0.1 then (
  bd1 (fX4_hasSpan i2 i5 c_sh1.2.1) (fun r_41 =>
  if r_41 = (0 : Int32) then (
  fX7_copy_101_v4 i1 i2 i3 i4 i5 c_finding c_sh0 c_sh1 c_sh2 c_sh3)
  else (
  bd1 (fX4_hasSpan i4 i5 c_sh0.2.1) (fun r_44 =>
  if r_44 = (0 : Int32) then (
  fX7_copy_101_v4 i1 i2 i3 i4 i5 c_finding c_sh0 c_sh1 c_sh2 c_sh3)
  else (
  cpI 60 60 c_sh1.2.2.2 c_sh0.2.2.2 i2 i4 i5 (fun c_sh0_items_45 =>
  some ((1 : Int32), c_finding, (c_sh0.1, c_sh0.2.1, c_sh0.2.2.1, c_sh0_items_45), c_sh1, c_sh2, c_sh3)))))))
  else (
  bd2 (fX7_found (4 : Int32) c_finding) (fun r_46 c_finding_47 =>
  some (r_46, c_finding_47, c_sh0, c_sh1, c_sh2, c_sh3))))
  else (
  fX7_copy_53_v4 i1 i2 i3 i4 i5 c_finding c_sh0 c_sh1 c_sh2 c_sh3))
  else (
  fX7_copy_53_v4 i1 i2 i3 i4 i5 c_finding c_sh0 c_sh1 c_sh2 c_sh3))
  (if c_sh1.2.2.1 = (0 : Int32) then (
  if c_sh1.2.2.1 = (0 : Int32) then (
  if c_sh1.1 = c_sh1.1 then (
  bd1 (fX4_hasSpan i2 i5 c_sh1.2.1) (fun r_50 =>
  if r_50 = (0 : Int32) then (
  fX7_copy_101_v5 i1 i2 i3 i4 i5 c_finding c_sh0 c_sh1 c_sh2 c_sh3)
  else (
  bd1 (fX4_hasSpan i4 i5 c_sh1.2.1) (fun r_53 =>
  if r_53 = (0 : Int32) then (
  fX7_copy_101_v5 i1 i2 i3 i4 i5 c_finding c_sh0 c_sh1 c_sh2 c_sh3)
  else (
  cpI 60 60 c_sh1.2.2.2 c_sh1.2.2.2 i2 i4 i5 (fun c_sh1_items_54 =>
  some ((1 : Int32), c_finding, c_sh0, (c_sh1.1, c_sh1.2.1, c_sh1.2.2.1, c_sh1_items_54), c_sh2, c_sh3)))))))
  else (
  bd2 (fX7_found (4 : Int32) c_finding) (fun r_55 c_finding_56 =>
  some (r_55, c_finding_56, c_sh0, c_sh1, c_sh2, c_sh3))))
  else (
  fX7_copy_53_v5 i1 i2 i3 i4 i5 c_finding c_sh0 c_sh1 c_sh2 c_sh3))
  else (
  fX7_copy_53_v5 i1 i2 i3 i4 i5 c_finding c_sh0 c_sh1 c_sh2 c_sh3))
  (if c_sh1.2.2.1 = (0 : Int32) then (
  if c_sh2.2.2.1 = (0 : Int32) then (
  if c_sh1.1 = c_sh2.1 then (
  bd1 (fX4_hasSpan i2 i5 c_sh1.2.1) (fun r_59 =>
  if r_59 = (0 : Int32) then (
  fX7_copy_101_v6 i1 i2 i3 i4 i5 c_finding c_sh0 c_sh1 c_sh2 c_sh3)
  else (
  bd1 (fX4_hasSpan i4 i5 c_sh2.2.1) (fun r_62 =>
  if r_62 = (0 : Int32) then (
  fX7_copy_101_v6 i1 i2 i3 i4 i5 c_finding c_sh0 c_sh1 c_sh2 c_sh3)
  else (
  cpI 60 60 c_sh1.2.2.2 c_sh2.2.2.2 i2 i4 i5 (fun c_sh2_items_63 =>
  some ((1 : Int32), c_finding, c_sh0, c_sh1, (c_sh2.1, c_sh2.2.1, c_sh2.2.2.1, c_sh2_items_63), c_sh3)))))))
  else (
  bd2 (fX7_found (4 : Int32) c_finding) (fun r_64 c_finding_65 =>
  some (r_64, c_finding_65, c_sh0, c_sh1, c_sh2, c_sh3))))
  else (
  fX7_copy_53_v6 i1 i2 i3 i4 i5 c_finding c_sh0 c_sh1 c_sh2 c_sh3))
  else (
  fX7_copy_53_v6 i1 i2 i3 i4 i5 c_finding c_sh0 c_sh1 c_sh2 c_sh3))
  (if c_sh1.2.2.1 = (0 : Int32) then (
  if c_sh3.2.2.1 = (0 : Int32) then (
  if c_sh1.1 = c_sh3.1 then (
  bd1 (fX4_hasSpan i2 i5 c_sh1.2.1) (fun r_68 =>
  if r_68 = (0 : Int32) then (
  fX7_copy_101_v7 i1 i2 i3 i4 i5 c_finding c_sh0 c_sh1 c_sh2 c_sh3)
  else (
  bd1 (fX4_hasSpan i4 i5 c_sh3.2.1) (fun r_71 =>
  if r_71 = (0 : Int32) then (
  fX7_copy_101_v7 i1 i2 i3 i4 i5 c_finding c_sh0 c_sh1 c_sh2 c_sh3)
  else (
  cpI 60 60 c_sh1.2.2.2 c_sh3.2.2.2 i2 i4 i5 (fun c_sh3_items_72 =>
  some ((1 : Int32), c_finding, c_sh0, c_sh1, c_sh2, (c_sh3.1, c_sh3.2.1, c_sh3.2.2.1, c_sh3_items_72))))))))
  else (
  bd2 (fX7_found (4 : Int32) c_finding) (fun r_73 c_finding_74 =>
  some (r_73, c_finding_74, c_sh0, c_sh1, c_sh2, c_sh3))))
  else (
  fX7_copy_53_v7 i1 i2 i3 i4 i5 c_finding c_sh0 c_sh1 c_sh2 c_sh3))
  else (
  fX7_copy_53_v7 i1 i2 i3 i4 i5 c_finding c_sh0 c_sh1 c_sh2 c_sh3)))
  (sw4 i3
  (if c_sh2.2.2.1 = (0 : Int32) then (
  if c_sh0.2.2.1 = (0 : Int32) then (
  if c_sh2.1 = c_sh0.1 then (
  bd1 (fX4_hasSpan i2 i5 c_sh2.2.1) (fun r_77 =>
  if r_77 = (0 : Int32) then (
  fX7_copy_101_v8 i1 i2 i3 i4 i5 c_finding c_sh0 c_sh1 c_sh2 c_sh3)
  else (
  bd1 (fX4_hasSpan i4 i5 c_sh0.2.1) (fun r_80 =>
  if r_80 = (0 : Int32) then (
  fX7_copy_101_v8 i1 i2 i3 i4 i5 c_finding c_sh0 c_sh1 c_sh2 c_sh3)
  else (
  cpI 60 60 c_sh2.2.2.2 c_sh0.2.2.2 i2 i4 i5 (fun c_sh0_items_81 =>
  some ((1 : Int32), c_finding, (c_sh0.1, c_sh0.2.1, c_sh0.2.2.1, c_sh0_items_81), c_sh1, c_sh2, c_sh3)))))))
  else (
  bd2 (fX7_found (4 : Int32) c_finding) (fun r_82 c_finding_83 =>
  some (r_82, c_finding_83, c_sh0, c_sh1, c_sh2, c_sh3))))
  else (
  fX7_copy_53_v8 i1 i2 i3 i4 i5 c_finding c_sh0 c_sh1 c_sh2 c_sh3))
  else (
  fX7_copy_53_v8 i1 i2 i3 i4 i5 c_finding c_sh0 c_sh1 c_sh2 c_sh3))
  (if c_sh2.2.2.1 = (0 : Int32) then (
  if c_sh1.2.2.1 = (0 : Int32) then (
  if c_sh2.1 = c_sh1.1 then (
  bd1 (fX4_hasSpan i2 i5 c_sh2.2.1) (fun r_86 =>
  if r_86 = (0 : Int32) then (
  fX7_copy_101_v9 i1 i2 i3 i4 i5 c_finding c_sh0 c_sh1 c_sh2 c_sh3)
  else (
  bd1 (fX4_hasSpan i4 i5 c_sh1.2.1) (fun r_89 =>
  if r_89 = (0 : Int32) then (
  fX7_copy_101_v9 i1 i2 i3 i4 i5 c_finding c_sh0 c_sh1 c_sh2 c_sh3)
  else (
  cpI 60 60 c_sh2.2.2.2 c_sh1.2.2.2 i2 i4 i5 (fun c_sh1_items_90 =>
  some ((1 : Int32), c_finding, c_sh0, (c_sh1.1, c_sh1.2.1, c_sh1.2.2.1, c_sh1_items_90), c_sh2, c_sh3)))))))
  else (
  bd2 (fX7_found (4 : Int32) c_finding) (fun r_91 c_finding_92 =>
  some (r_91, c_finding_92, c_sh0, c_sh1, c_sh2, c_sh3))))
  else (
  fX7_copy_53_v9 i1 i2 i3 i4 i5 c_finding c_sh0 c_sh1 c_sh2 c_sh3))
  else (
  fX7_copy_53_v9 i1 i2 i3 i4 i5 c_finding c_sh0 c_sh1 c_sh2 c_sh3))
  (if c_sh2.2.2.1 = (0 : Int32) then (
  if c_sh2.2.2.1 = (0 : Int32) then (
  if c_sh2.1 = c_sh2.1 then (
  bd1 (fX4_hasSpan i2 i5 c_sh2.2.1) (fun r_95 =>
  if r_95 = (0 : Int32) then (
  fX7_copy_101_v10 i1 i2 i3 i4 i5 c_finding c_sh0 c_sh1 c_sh2 c_sh3)
  else (
  bd1 (fX4_hasSpan i4 i5 c_sh2.2.1) (fun r_98 =>
  if r_98 = (0 : Int32) then (
  fX7_copy_101_v10 i1 i2 i3 i4 i5 c_finding c_sh0 c_sh1 c_sh2 c_sh3)
  else (
  cpI 60 60 c_sh2.2.2.2 c_sh2.2.2.2 i2 i4 i5 (fun c_sh2_items_99 =>
  some ((1 : Int32), c_finding, c_sh0, c_sh1, (c_sh2.1, c_sh2.2.1, c_sh2.2.2.1, c_sh2_items_99), c_sh3)))))))
  else (
  bd2 (fX7_found (4 : Int32) c_finding) (fun r_100 c_finding_101 =>
  some (r_100, c_finding_101, c_sh0, c_sh1, c_sh2, c_sh3))))
  else (
  fX7_copy_53_v10 i1 i2 i3 i4 i5 c_finding c_sh0 c_sh1 c_sh2 c_sh3))
  else (
  fX7_copy_53_v10 i1 i2 i3 i4 i5 c_finding c_sh0 c_sh1 c_sh2 c_sh3))
  (if c_sh2.2.2.1 = (0 : Int32) then (
  if c_sh3.2.2.1 = (0 : Int32) then (
  if c_sh2.1 = c_sh3.1 then (
  bd1 (fX4_hasSpan i2 i5 c_sh2.2.1) (fun r_104 =>
  if r_104 = (0 : Int32) then (
  fX7_copy_101_v11 i1 i2 i3 i4 i5 c_finding c_sh0 c_sh1 c_sh2 c_sh3)
  else (
  bd1 (fX4_hasSpan i4 i5 c_sh3.2.1) (fun r_107 =>
  if r_107 = (0 : Int32) then (
  fX7_copy_101_v11 i1 i2 i3 i4 i5 c_finding c_sh0 c_sh1 c_sh2 c_sh3)
  else (
  cpI 60 60 c_sh2.2.2.2 c_sh3.2.2.2 i2 i4 i5 (fun c_sh3_items_108 =>
  some ((1 : Int32), c_finding, c_sh0, c_sh1, c_sh2, (c_sh3.1, c_sh3.2.1, c_sh3.2.2.1, c_sh3_items_108))))))))
  else (
  bd2 (fX7_found (4 : Int32) c_finding) (fun r_109 c_finding_110 =>
  some (r_109, c_finding_110, c_sh0, c_sh1, c_sh2, c_sh3))))
  else (
  fX7_copy_53_v11 i1 i2 i3 i4 i5 c_finding c_sh0 c_sh1 c_sh2 c_sh3))
  else (
  fX7_copy_53_v11 i1 i2 i3 i4 i5 c_finding c_sh0 c_sh1 c_sh2 c_sh3)))
  (sw4 i3
  (if c_sh3.2.2.1 = (0 : Int32) then (
  if c_sh0.2.2.1 = (0 : Int32) then (
  if c_sh3.1 = c_sh0.1 then (
  bd1 (fX4_hasSpan i2 i5 c_sh3.2.1) (fun r_113 =>
  if r_113 = (0 : Int32) then (
  fX7_copy_101_v12 i1 i2 i3 i4 i5 c_finding c_sh0 c_sh1 c_sh2 c_sh3)
  else (
  bd1 (fX4_hasSpan i4 i5 c_sh0.2.1) (fun r_116 =>
  if r_116 = (0 : Int32) then (
  fX7_copy_101_v12 i1 i2 i3 i4 i5 c_finding c_sh0 c_sh1 c_sh2 c_sh3)
  else (
  cpI 60 60 c_sh3.2.2.2 c_sh0.2.2.2 i2 i4 i5 (fun c_sh0_items_117 =>
  some ((1 : Int32), c_finding, (c_sh0.1, c_sh0.2.1, c_sh0.2.2.1, c_sh0_items_117), c_sh1, c_sh2, c_sh3)))))))
  else (
  bd2 (fX7_found (4 : Int32) c_finding) (fun r_118 c_finding_119 =>
  some (r_118, c_finding_119, c_sh0, c_sh1, c_sh2, c_sh3))))
  else (
  fX7_copy_53_v12 i1 i2 i3 i4 i5 c_finding c_sh0 c_sh1 c_sh2 c_sh3))
  else (
  fX7_copy_53_v12 i1 i2 i3 i4 i5 c_finding c_sh0 c_sh1 c_sh2 c_sh3))
  (if c_sh3.2.2.1 = (0 : Int32) then (
  if c_sh1.2.2.1 = (0 : Int32) then (
  if c_sh3.1 = c_sh1.1 then (
  bd1 (fX4_hasSpan i2 i5 c_sh3.2.1) (fun r_122 =>
  if r_122 = (0 : Int32) then (
  fX7_copy_101_v13 i1 i2 i3 i4 i5 c_finding c_sh0 c_sh1 c_sh2 c_sh3)
  else (
  bd1 (fX4_hasSpan i4 i5 c_sh1.2.1) (fun r_125 =>
  if r_125 = (0 : Int32) then (
  fX7_copy_101_v13 i1 i2 i3 i4 i5 c_finding c_sh0 c_sh1 c_sh2 c_sh3)
  else (
  cpI 60 60 c_sh3.2.2.2 c_sh1.2.2.2 i2 i4 i5 (fun c_sh1_items_126 =>
  some ((1 : Int32), c_finding, c_sh0, (c_sh1.1, c_sh1.2.1, c_sh1.2.2.1, c_sh1_items_126), c_sh2, c_sh3)))))))
  else (
  bd2 (fX7_found (4 : Int32) c_finding) (fun r_127 c_finding_128 =>
  some (r_127, c_finding_128, c_sh0, c_sh1, c_sh2, c_sh3))))
  else (
  fX7_copy_53_v13 i1 i2 i3 i4 i5 c_finding c_sh0 c_sh1 c_sh2 c_sh3))
  else (
  fX7_copy_53_v13 i1 i2 i3 i4 i5 c_finding c_sh0 c_sh1 c_sh2 c_sh3))
  (if c_sh3.2.2.1 = (0 : Int32) then (
  if c_sh2.2.2.1 = (0 : Int32) then (
  if c_sh3.1 = c_sh2.1 then (
  bd1 (fX4_hasSpan i2 i5 c_sh3.2.1) (fun r_131 =>
  if r_131 = (0 : Int32) then (
  fX7_copy_101_v14 i1 i2 i3 i4 i5 c_finding c_sh0 c_sh1 c_sh2 c_sh3)
  else (
  bd1 (fX4_hasSpan i4 i5 c_sh2.2.1) (fun r_134 =>
  if r_134 = (0 : Int32) then (
  fX7_copy_101_v14 i1 i2 i3 i4 i5 c_finding c_sh0 c_sh1 c_sh2 c_sh3)
  else (
  cpI 60 60 c_sh3.2.2.2 c_sh2.2.2.2 i2 i4 i5 (fun c_sh2_items_135 =>
  some ((1 : Int32), c_finding, c_sh0, c_sh1, (c_sh2.1, c_sh2.2.1, c_sh2.2.2.1, c_sh2_items_135), c_sh3)))))))
  else (
  bd2 (fX7_found (4 : Int32) c_finding) (fun r_136 c_finding_137 =>
  some (r_136, c_finding_137, c_sh0, c_sh1, c_sh2, c_sh3))))
  else (
  fX7_copy_53_v14 i1 i2 i3 i4 i5 c_finding c_sh0 c_sh1 c_sh2 c_sh3))
  else (
  fX7_copy_53_v14 i1 i2 i3 i4 i5 c_finding c_sh0 c_sh1 c_sh2 c_sh3))
  (if c_sh3.2.2.1 = (0 : Int32) then (
  if c_sh3.2.2.1 = (0 : Int32) then (
  if c_sh3.1 = c_sh3.1 then (
  bd1 (fX4_hasSpan i2 i5 c_sh3.2.1) (fun r_140 =>
  if r_140 = (0 : Int32) then (
  fX7_copy_101_v15 i1 i2 i3 i4 i5 c_finding c_sh0 c_sh1 c_sh2 c_sh3)
  else (
  bd1 (fX4_hasSpan i4 i5 c_sh3.2.1) (fun r_143 =>
  if r_143 = (0 : Int32) then (
  fX7_copy_101_v15 i1 i2 i3 i4 i5 c_finding c_sh0 c_sh1 c_sh2 c_sh3)
  else (
  cpI 60 60 c_sh3.2.2.2 c_sh3.2.2.2 i2 i4 i5 (fun c_sh3_items_144 =>
  some ((1 : Int32), c_finding, c_sh0, c_sh1, c_sh2, (c_sh3.1, c_sh3.2.1, c_sh3.2.2.1, c_sh3_items_144))))))))
  else (
  bd2 (fX7_found (4 : Int32) c_finding) (fun r_145 c_finding_146 =>
  some (r_145, c_finding_146, c_sh0, c_sh1, c_sh2, c_sh3))))
  else (
  fX7_copy_53_v15 i1 i2 i3 i4 i5 c_finding c_sh0 c_sh1 c_sh2 c_sh3))
  else (
  fX7_copy_53_v15 i1 i2 i3 i4 i5 c_finding c_sh0 c_sh1 c_sh2 c_sh3)))))))
noncomputable def bX7_write_62 (i1 : Int32) (i2 : Int32) (c_room : Int32) (c_told : jT3) (c_events : jT3)  (self : Int32 → Int32 → jT11 → jS4 → jS4 → jS4 → jS4 → Int32 → Int32 → (Option (Int32 × Int32 × Int32 × jT11 × jS4 × jS4 × jS4 × jS4))) (c_finding : Int32) (c_courseKnown : Int32) (c_course : jT11) (c_sh0 : jS4) (c_sh1 : jS4) (c_sh2 : jS4) (c_sh3 : jS4) (i4 : Int32) (i5 : Int32) : Option (Int32 × Int32 × Int32 × jT11 × jS4 × jS4 × jS4 × jS4) :=
  if i4 ≤ i5 then (
  some (i4, c_finding, c_courseKnown, c_course, c_sh0, c_sh1, c_sh2, c_sh3))
  else (
  bd1 (fX1_floorAt i5 i1 c_course.2.2.2.2.1) (fun r_6 =>
  bd1 (fX4_put i5 r_6 c_sh0.1 c_sh0.2.2.2) (fun c_sh0_items_7 =>
  nmV (i5 + (1 : Int32)) (fun i5_8 =>
  self c_finding c_courseKnown c_course (c_sh0.1, c_sh0.2.1, c_sh0.2.2.1, c_sh0_items_7) c_sh1 c_sh2 c_sh3 i4 i5_8))))
noncomputable def fX7_write_62 (i1 : Int32) (i2 : Int32) (c_room : Int32) (c_told : jT3) (c_events : jT3)  (n : Nat) : Int32 → Int32 → jT11 → jS4 → jS4 → jS4 → jS4 → Int32 → Int32 → (Option (Int32 × Int32 × Int32 × jT11 × jS4 × jS4 × jS4 × jS4)) := lpN (fun _ _ _ _ _ _ _ _ _ => none) (bX7_write_62 i1 i2 c_room c_told c_events ) n
noncomputable def bX7_write_62_v1 (i1 : Int32) (i2 : Int32) (c_room : Int32) (c_told : jT3) (c_events : jT3)  (self : Int32 → Int32 → jT11 → jS4 → jS4 → jS4 → jS4 → Int32 → Int32 → (Option (Int32 × Int32 × Int32 × jT11 × jS4 × jS4 × jS4 × jS4))) (c_finding : Int32) (c_courseKnown : Int32) (c_course : jT11) (c_sh0 : jS4) (c_sh1 : jS4) (c_sh2 : jS4) (c_sh3 : jS4) (i4 : Int32) (i5 : Int32) : Option (Int32 × Int32 × Int32 × jT11 × jS4 × jS4 × jS4 × jS4) :=
  if i4 ≤ i5 then (
  some (i4, c_finding, c_courseKnown, c_course, c_sh0, c_sh1, c_sh2, c_sh3))
  else (
  bd1 (fX1_floorAt i5 i1 c_course.2.2.2.2.1) (fun r_14 =>
  bd1 (fX4_put i5 r_14 c_sh1.1 c_sh1.2.2.2) (fun c_sh1_items_15 =>
  nmV (i5 + (1 : Int32)) (fun i5_16 =>
  self c_finding c_courseKnown c_course c_sh0 (c_sh1.1, c_sh1.2.1, c_sh1.2.2.1, c_sh1_items_15) c_sh2 c_sh3 i4 i5_16))))
noncomputable def fX7_write_62_v1 (i1 : Int32) (i2 : Int32) (c_room : Int32) (c_told : jT3) (c_events : jT3)  (n : Nat) : Int32 → Int32 → jT11 → jS4 → jS4 → jS4 → jS4 → Int32 → Int32 → (Option (Int32 × Int32 × Int32 × jT11 × jS4 × jS4 × jS4 × jS4)) := lpN (fun _ _ _ _ _ _ _ _ _ => none) (bX7_write_62_v1 i1 i2 c_room c_told c_events ) n
noncomputable def bX7_write_62_v2 (i1 : Int32) (i2 : Int32) (c_room : Int32) (c_told : jT3) (c_events : jT3)  (self : Int32 → Int32 → jT11 → jS4 → jS4 → jS4 → jS4 → Int32 → Int32 → (Option (Int32 × Int32 × Int32 × jT11 × jS4 × jS4 × jS4 × jS4))) (c_finding : Int32) (c_courseKnown : Int32) (c_course : jT11) (c_sh0 : jS4) (c_sh1 : jS4) (c_sh2 : jS4) (c_sh3 : jS4) (i4 : Int32) (i5 : Int32) : Option (Int32 × Int32 × Int32 × jT11 × jS4 × jS4 × jS4 × jS4) :=
  if i4 ≤ i5 then (
  some (i4, c_finding, c_courseKnown, c_course, c_sh0, c_sh1, c_sh2, c_sh3))
  else (
  bd1 (fX1_floorAt i5 i1 c_course.2.2.2.2.1) (fun r_22 =>
  bd1 (fX4_put i5 r_22 c_sh2.1 c_sh2.2.2.2) (fun c_sh2_items_23 =>
  nmV (i5 + (1 : Int32)) (fun i5_24 =>
  self c_finding c_courseKnown c_course c_sh0 c_sh1 (c_sh2.1, c_sh2.2.1, c_sh2.2.2.1, c_sh2_items_23) c_sh3 i4 i5_24))))
noncomputable def fX7_write_62_v2 (i1 : Int32) (i2 : Int32) (c_room : Int32) (c_told : jT3) (c_events : jT3)  (n : Nat) : Int32 → Int32 → jT11 → jS4 → jS4 → jS4 → jS4 → Int32 → Int32 → (Option (Int32 × Int32 × Int32 × jT11 × jS4 × jS4 × jS4 × jS4)) := lpN (fun _ _ _ _ _ _ _ _ _ => none) (bX7_write_62_v2 i1 i2 c_room c_told c_events ) n
noncomputable def bX7_write_62_v3 (i1 : Int32) (i2 : Int32) (c_room : Int32) (c_told : jT3) (c_events : jT3)  (self : Int32 → Int32 → jT11 → jS4 → jS4 → jS4 → jS4 → Int32 → Int32 → (Option (Int32 × Int32 × Int32 × jT11 × jS4 × jS4 × jS4 × jS4))) (c_finding : Int32) (c_courseKnown : Int32) (c_course : jT11) (c_sh0 : jS4) (c_sh1 : jS4) (c_sh2 : jS4) (c_sh3 : jS4) (i4 : Int32) (i5 : Int32) : Option (Int32 × Int32 × Int32 × jT11 × jS4 × jS4 × jS4 × jS4) :=
  if i4 ≤ i5 then (
  some (i4, c_finding, c_courseKnown, c_course, c_sh0, c_sh1, c_sh2, c_sh3))
  else (
  bd1 (fX1_floorAt i5 i1 c_course.2.2.2.2.1) (fun r_30 =>
  bd1 (fX4_put i5 r_30 c_sh3.1 c_sh3.2.2.2) (fun c_sh3_items_31 =>
  nmV (i5 + (1 : Int32)) (fun i5_32 =>
  self c_finding c_courseKnown c_course c_sh0 c_sh1 c_sh2 (c_sh3.1, c_sh3.2.1, c_sh3.2.2.1, c_sh3_items_31) i4 i5_32))))
noncomputable def fX7_write_62_v3 (i1 : Int32) (i2 : Int32) (c_room : Int32) (c_told : jT3) (c_events : jT3)  (n : Nat) : Int32 → Int32 → jT11 → jS4 → jS4 → jS4 → jS4 → Int32 → Int32 → (Option (Int32 × Int32 × Int32 × jT11 × jS4 × jS4 × jS4 × jS4)) := lpN (fun _ _ _ _ _ _ _ _ _ => none) (bX7_write_62_v3 i1 i2 c_room c_told c_events ) n
noncomputable def fX7_write (i1 : Int32) (i2 : Int32) (c_room : Int32) (c_told : jT3) (c_events : jT3) (c_finding : Int32) (c_courseKnown : Int32) (c_course : jT11) (c_sh0 : jS4) (c_sh1 : jS4) (c_sh2 : jS4) (c_sh3 : jS4) : Option (Int32 × Int32 × Int32 × jT11 × jS4 × jS4 × jS4 × jS4) :=
  bd1 (fX7_isTenant i1 c_told.1) (fun r_1 =>
  if r_1 = (0 : Int32) then (
  some ((-2 : Int32), c_finding, c_courseKnown, c_course, c_sh0, c_sh1, c_sh2, c_sh3))
  else (
  bd1 (fX7_within i2 (0 : Int32) (3 : Int32)) (fun r_2 =>
  if r_2 = (0 : Int32) then (
  some ((-2 : Int32), c_finding, c_courseKnown, c_course, c_sh0, c_sh1, c_sh2, c_sh3))
  else (
  sw4 i2
  (if c_sh0.2.2.1 = (0 : Int32) then (
  bd2 (fX7_courseTold c_room c_told c_events c_courseKnown c_course) (fun c_courseKnown_3 c_course_4 =>
  nmV ((if (24 : Int32) < c_sh0.2.1 then (24 : Int32) else c_sh0.2.1)) (fun i4_5 =>
  fX7_write_62 i1 i2 c_room c_told c_events jF c_finding c_courseKnown_3 c_course_4 c_sh0 c_sh1 c_sh2 c_sh3 i4_5 (0 : Int32))))
  else (
  bd2 (fX7_found (1 : Int32) c_finding) (fun r_9 c_finding_10 =>
  some (r_9, c_finding_10, c_courseKnown, c_course, c_sh0, c_sh1, c_sh2, c_sh3))))
  (if c_sh1.2.2.1 = (0 : Int32) then (
  bd2 (fX7_courseTold c_room c_told c_events c_courseKnown c_course) (fun c_courseKnown_11 c_course_12 =>
  nmV ((if (24 : Int32) < c_sh1.2.1 then (24 : Int32) else c_sh1.2.1)) (fun i4_13 =>
  fX7_write_62_v1 i1 i2 c_room c_told c_events jF c_finding c_courseKnown_11 c_course_12 c_sh0 c_sh1 c_sh2 c_sh3 i4_13 (0 : Int32))))
  else (
  bd2 (fX7_found (1 : Int32) c_finding) (fun r_17 c_finding_18 =>
  some (r_17, c_finding_18, c_courseKnown, c_course, c_sh0, c_sh1, c_sh2, c_sh3))))
  (if c_sh2.2.2.1 = (0 : Int32) then (
  bd2 (fX7_courseTold c_room c_told c_events c_courseKnown c_course) (fun c_courseKnown_19 c_course_20 =>
  nmV ((if (24 : Int32) < c_sh2.2.1 then (24 : Int32) else c_sh2.2.1)) (fun i4_21 =>
  fX7_write_62_v2 i1 i2 c_room c_told c_events jF c_finding c_courseKnown_19 c_course_20 c_sh0 c_sh1 c_sh2 c_sh3 i4_21 (0 : Int32))))
  else (
  bd2 (fX7_found (1 : Int32) c_finding) (fun r_25 c_finding_26 =>
  some (r_25, c_finding_26, c_courseKnown, c_course, c_sh0, c_sh1, c_sh2, c_sh3))))
  (if c_sh3.2.2.1 = (0 : Int32) then (
  bd2 (fX7_courseTold c_room c_told c_events c_courseKnown c_course) (fun c_courseKnown_27 c_course_28 =>
  nmV ((if (24 : Int32) < c_sh3.2.1 then (24 : Int32) else c_sh3.2.1)) (fun i4_29 =>
  fX7_write_62_v3 i1 i2 c_room c_told c_events jF c_finding c_courseKnown_27 c_course_28 c_sh0 c_sh1 c_sh2 c_sh3 i4_29 (0 : Int32))))
  else (
  bd2 (fX7_found (1 : Int32) c_finding) (fun r_33 c_finding_34 =>
  some (r_33, c_finding_34, c_courseKnown, c_course, c_sh0, c_sh1, c_sh2, c_sh3))))))))
noncomputable def fX7_count (i1 : Int32) (c_room : Int32) (c_finding : Int32) (c_text_size : Int32) (c_told : jT3) (c_events : jT3) (c_seen_size : Int32) (c_courseKnown : Int32) (c_course : jT11) : Option (Int32 × Int32 × jT11) :=
  if i1 = (0 : Int32) then (
  some (c_told.1, c_courseKnown, c_course))
  else (
  if i1 = (1 : Int32) then (
  some (c_text_size, c_courseKnown, c_course))
  else (
  if i1 = (2 : Int32) then (
  some (c_events.1, c_courseKnown, c_course))
  else (
  if i1 = (3 : Int32) then (
  bd2 (fX7_courseTold c_room c_told c_events c_courseKnown c_course) (fun c_courseKnown_1 c_course_2 =>
  bd1 (fX1_settledInAll c_course_2.1 c_course_2.2.1) (fun r_3 =>
  some (r_3, c_courseKnown_1, c_course_2))))
  else (
  if i1 = (4 : Int32) then (
  bd2 (fX7_courseTold c_room c_told c_events c_courseKnown c_course) (fun c_courseKnown_4 c_course_5 =>
  bd1 (fX1_fallsInAll c_course_5.1 c_course_5.2.2.1) (fun r_6 =>
  some (r_6, c_courseKnown_4, c_course_5))))
  else (
  if i1 = (5 : Int32) then (
  some (c_room, c_courseKnown, c_course))
  else (
  if i1 = (6 : Int32) then (
  bd2 (fX7_courseTold c_room c_told c_events c_courseKnown c_course) (fun c_courseKnown_7 c_course_8 =>
  bd1 (fX1_housedAtLast c_course_8.1 c_course_8.2.2.2.2.1) (fun r_9 =>
  some (r_9, c_courseKnown_7, c_course_8))))
  else (
  if i1 = (7 : Int32) then (
  some (c_seen_size, c_courseKnown, c_course))
  else (
  if i1 = (8 : Int32) then (
  some (c_finding, c_courseKnown, c_course))
  else (
  some ((-2 : Int32), c_courseKnown, c_course))))))))))
noncomputable def bX7_digestBest_5 (l1 : Int64) (c_best : jB3)  (self : Int64 → Int32 → Option (Int64)) (l3 : Int64) (i5 : Int32) : Option (Int64) :=
  if (2 : Int32) < i5 then (
  some (l3))
  else (
  bd1 (fX0_part i5 c_best.1 c_best.2.1 c_best.2.2) (fun r_1 =>
  nmV ((((31 : Int64) * l3) + (Int32.toInt64 r_1))) (fun l3_2 =>
  nmV (i5 + (1 : Int32)) (fun i5_3 =>
  self l3_2 i5_3))))
noncomputable def fX7_digestBest_5 (l1 : Int64) (c_best : jB3)  (n : Nat) : Int64 → Int32 → Option (Int64) := lpN (fun _ _ => none) (bX7_digestBest_5 l1 c_best ) n
noncomputable def fX7_digestBest (l1 : Int64) (c_best : jB3) : Option (Int64) :=
  fX7_digestBest_5 l1 c_best jF l1 (0 : Int32)
noncomputable def bX7_digestMonths_105 (l1 : Int64) (i3 : Int32) (c_room : Int32) (c_told : jT3) (c_events : jT3)  (self : Int32 → jT11 → Int64 → Int32 → (Option (Int64 × Int32 × jT11))) (c_courseKnown : Int32) (c_course : jT11) (l4 : Int64) (i6 : Int32) : Option (Int64 × Int32 × jT11) :=
  if (3 : Int32) < i6 then (
  some (l4, c_courseKnown, c_course))
  else (
  bd3 (fX7_ends i3 i6 c_room c_told c_events c_courseKnown c_course) (fun r_2 c_courseKnown_3 c_course_4 =>
  nmV ((((31 : Int64) * l4) + (Int32.toInt64 r_2))) (fun l4_5 =>
  nmV (i6 + (1 : Int32)) (fun i6_6 =>
  self c_courseKnown_3 c_course_4 l4_5 i6_6))))
noncomputable def fX7_digestMonths_105 (l1 : Int64) (i3 : Int32) (c_room : Int32) (c_told : jT3) (c_events : jT3)  (n : Nat) : Int32 → jT11 → Int64 → Int32 → (Option (Int64 × Int32 × jT11)) := lpN (fun _ _ _ _ => none) (bX7_digestMonths_105 l1 i3 c_room c_told c_events ) n
noncomputable def bX7_digestMonths_65 (l1 : Int64) (i3 : Int32) (c_room : Int32) (c_told : jT3) (c_events : jT3) (q_48 : Int32 → jT11 → Int64 → Int32 → Int32 → (Option (Int64 × Int32 × jT11))) (self : Int32 → jT11 → Int64 → Int32 → Int32 → Int32 → Int32 → (Option (Int64 × Int32 × jT11))) (c_courseKnown : Int32) (c_course : jT11) (l4 : Int64) (i7 : Int32) (i8 : Int32) (i9 : Int32) (i10 : Int32) : Option (Int64 × Int32 × jT11) :=
  if (3 : Int32) < i10 then (
  nmV (i8 + (1 : Int32)) (fun i8_8 =>
  q_48 c_courseKnown c_course l4 i7 i8_8))
  else (
  bd3 (fX7_at i9 i3 i10 c_room c_told c_events c_courseKnown c_course) (fun r_9 c_courseKnown_10 c_course_11 =>
  nmV ((((31 : Int64) * l4) + (Int32.toInt64 r_9))) (fun l4_12 =>
  nmV (i10 + (1 : Int32)) (fun i10_13 =>
  self c_courseKnown_10 c_course_11 l4_12 i7 i8 i9 i10_13))))
noncomputable def fX7_digestMonths_65 (l1 : Int64) (i3 : Int32) (c_room : Int32) (c_told : jT3) (c_events : jT3) (q_48 : Int32 → jT11 → Int64 → Int32 → Int32 → (Option (Int64 × Int32 × jT11))) (n : Nat) : Int32 → jT11 → Int64 → Int32 → Int32 → Int32 → Int32 → (Option (Int64 × Int32 × jT11)) := lpN (fun _ _ _ _ _ _ _ => none) (bX7_digestMonths_65 l1 i3 c_room c_told c_events q_48) n
noncomputable def bX7_digestMonths_48 (l1 : Int64) (i3 : Int32) (c_room : Int32) (c_told : jT3) (c_events : jT3)  (self : Int32 → jT11 → Int64 → Int32 → Int32 → (Option (Int64 × Int32 × jT11))) (c_courseKnown : Int32) (c_course : jT11) (l4 : Int64) (i7 : Int32) (i8 : Int32) : Option (Int64 × Int32 × jT11) :=
  if i7 ≤ i8 then (
  fX7_digestMonths_105 l1 i3 c_room c_told c_events jF c_courseKnown c_course l4 (0 : Int32))
  else (
  rdA 4 dmF i8 (fun v_7 =>
  fX7_digestMonths_65 l1 i3 c_room c_told c_events self jF c_courseKnown c_course l4 i7 i8 v_7 (0 : Int32)))
noncomputable def fX7_digestMonths_48 (l1 : Int64) (i3 : Int32) (c_room : Int32) (c_told : jT3) (c_events : jT3)  (n : Nat) : Int32 → jT11 → Int64 → Int32 → Int32 → (Option (Int64 × Int32 × jT11)) := lpN (fun _ _ _ _ _ => none) (bX7_digestMonths_48 l1 i3 c_room c_told c_events ) n
noncomputable def bX7_digestMonths_6 (l1 : Int64) (i3 : Int32) (c_room : Int32) (c_told : jT3) (c_events : jT3)  (self : Int32 → jT11 → Int64 → Int32 → (Option (Int64 × Int32 × jT11))) (c_courseKnown : Int32) (c_course : jT11) (l4 : Int64) (i6 : Int32) : Option (Int64 × Int32 × jT11) :=
  if (2 : Int32) < i6 then (
  nmV ((nI 4)) (fun i7_1 =>
  fX7_digestMonths_48 l1 i3 c_room c_told c_events jF c_courseKnown c_course l4 i7_1 (0 : Int32)))
  else (
  bd1 (fX7_tenant i3 i6 c_told) (fun r_14 =>
  nmV ((((31 : Int64) * l4) + (Int32.toInt64 r_14))) (fun l4_15 =>
  nmV (i6 + (1 : Int32)) (fun i6_16 =>
  self c_courseKnown c_course l4_15 i6_16))))
noncomputable def fX7_digestMonths_6 (l1 : Int64) (i3 : Int32) (c_room : Int32) (c_told : jT3) (c_events : jT3)  (n : Nat) : Int32 → jT11 → Int64 → Int32 → (Option (Int64 × Int32 × jT11)) := lpN (fun _ _ _ _ => none) (bX7_digestMonths_6 l1 i3 c_room c_told c_events ) n
noncomputable def fX7_digestMonths (l1 : Int64) (i3 : Int32) (c_room : Int32) (c_told : jT3) (c_events : jT3) (c_courseKnown : Int32) (c_course : jT11) : Option (Int64 × Int32 × jT11) :=
  fX7_digestMonths_6 l1 i3 c_room c_told c_events jF c_courseKnown c_course l1 (0 : Int32)
noncomputable def fX7_digestPlans (l1 : Int64) (i3 : Int32) (c_room : Int32) (c_told : jT3) (c_events : jT3) (c_seen : jT3) (c_settledByKnown : Int32) (c_others : jT3) (c_trial : jT11) (c_best : jB3) (c_settledBy : Nat → Int32) (c_views : Nat → Int32) : Option (Int64 × Int32 × jT3 × jT11 × jB3 × (Nat → Int32) × (Nat → Int32)) :=
  bd3 (fX7_planWage i3 c_room c_told c_events c_others c_trial c_best) (fun c_others_1 c_trial_2 c_best_3 =>
  bd1 (fX7_digestBest l1 c_best_3) (fun r_4 =>
  bd3 (fX7_planSort i3 c_room c_told c_events c_others_1 c_trial_2 c_best_3) (fun c_others_5 c_trial_6 c_best_7 =>
  bd1 (fX7_digestBest r_4 c_best_7) (fun r_8 =>
  bd4 (fX7_was i3 (0 : Int32) c_room c_told c_events c_seen c_others_5 c_trial_6 c_views) (fun r_9 c_others_10 c_trial_11 c_views_12 =>
  nmV ((((31 : Int64) * r_8) + (Int32.toInt64 r_9))) (fun l4_13 =>
  bd4 (fX7_was i3 (1 : Int32) c_room c_told c_events c_seen c_others_10 c_trial_11 c_views_12) (fun r_14 c_others_15 c_trial_16 c_views_17 =>
  nmV ((((31 : Int64) * l4_13) + (Int32.toInt64 r_14))) (fun l4_18 =>
  bd4 (fX7_ask i3 c_room c_told c_events c_seen c_others_15 c_trial_16 c_views_17) (fun r_19 c_others_20 c_trial_21 c_views_22 =>
  nmV ((((31 : Int64) * l4_18) + (Int32.toInt64 r_19))) (fun l4_23 =>
  bd4 (fX7_chance (5 : Int32) i3 (0 : Int32) c_room c_told c_events c_settledByKnown c_trial_21 c_settledBy) (fun r_24 c_settledByKnown_25 c_trial_26 c_settledBy_27 =>
  nmV ((((31 : Int64) * l4_23) + r_24)) (fun l4_28 =>
  bd4 (fX7_chance (5 : Int32) i3 (1 : Int32) c_room c_told c_events c_settledByKnown_25 c_trial_26 c_settledBy_27) (fun r_29 c_settledByKnown_30 c_trial_31 c_settledBy_32 =>
  nmV ((((31 : Int64) * l4_28) + r_29)) (fun l4_33 =>
  some (l4_33, c_settledByKnown_30, c_others_20, c_trial_31, c_best_7, c_settledBy_32, c_views_22)))))))))))))))
noncomputable def bX7_digest_161 (c_room : Int32) (c_finding : Int32) (c_text : jT1) (c_told : jT3) (c_events : jT3) (c_seen : jT3)  (self : Int32 → Int32 → jT3 → jT11 → jT11 → jB3 → (Nat → Int32) → (Nat → Int32) → Int64 → Int32 → (Option (Int64 × Int32 × Int32 × jT3 × jT11 × jT11 × jB3 × (Nat → Int32) × (Nat → Int32)))) (c_courseKnown : Int32) (c_settledByKnown : Int32) (c_others : jT3) (c_course : jT11) (c_trial : jT11) (c_best : jB3) (c_settledBy : Nat → Int32) (c_views : Nat → Int32) (l1 : Int64) (i3 : Int32) : Option (Int64 × Int32 × Int32 × jT3 × jT11 × jT11 × jB3 × (Nat → Int32) × (Nat → Int32)) :=
  if (3 : Int32) < i3 then (
  bd3 (fX7_top c_room c_told c_events c_courseKnown c_course) (fun r_3 c_courseKnown_4 c_course_5 =>
  nmV ((((31 : Int64) * l1) + (Int32.toInt64 r_3))) (fun l1_6 =>
  bd3 (fX7_heard c_room c_told c_events c_courseKnown_4 c_course_5) (fun r_7 c_courseKnown_8 c_course_9 =>
  nmV ((((31 : Int64) * l1_6) + (Int32.toInt64 r_7))) (fun l1_10 =>
  bd2 (fX7_planRoom c_told c_events c_trial c_best) (fun c_trial_11 c_best_12 =>
  bd1 (fX7_digestBest l1_10 c_best_12) (fun r_13 =>
  bd4 (fX7_spare (-1 : Int32) c_room c_told c_events c_settledByKnown c_trial_11 c_settledBy) (fun r_14 c_settledByKnown_15 c_trial_16 c_settledBy_17 =>
  nmV ((((31 : Int64) * r_13) + (Int32.toInt64 r_14))) (fun l1_18 =>
  bd4 (fX7_spare (0 : Int32) c_room c_told c_events c_settledByKnown_15 c_trial_16 c_settledBy_17) (fun r_19 c_settledByKnown_20 c_trial_21 c_settledBy_22 =>
  nmV ((((31 : Int64) * l1_18) + (Int32.toInt64 r_19))) (fun l1_23 =>
  bd2 (fX7_never c_room c_told c_events c_seen c_trial_21) (fun r_24 c_trial_25 =>
  nmV ((((31 : Int64) * l1_23) + (Int32.toInt64 r_24))) (fun l1_26 =>
  bd3 (fX7_houses (7 : Int32) (6 : Int32) (0 : Int32) c_room c_events c_others c_trial_25) (fun r_27 c_others_28 c_trial_29 =>
  nmV ((((31 : Int64) * l1_26) + (Int32.toInt64 r_27))) (fun l1_30 =>
  bd3 (fX7_houses (7 : Int32) (6 : Int32) (1 : Int32) c_room c_events c_others_28 c_trial_29) (fun r_31 c_others_32 c_trial_33 =>
  nmV ((((31 : Int64) * l1_30) + (Int32.toInt64 r_31))) (fun l1_34 =>
  some (l1_34, c_courseKnown_8, c_settledByKnown_20, c_others_32, c_course_9, c_trial_33, c_best_12, c_settledBy_22, c_views))))))))))))))))))
  else (
  bd3 (fX7_sum i3 c_room c_told c_events c_courseKnown c_course) (fun r_35 c_courseKnown_36 c_course_37 =>
  nmV ((((31 : Int64) * l1) + (Int32.toInt64 r_35))) (fun l1_38 =>
  nmV (i3 + (1 : Int32)) (fun i3_39 =>
  self c_courseKnown_36 c_settledByKnown c_others c_course_37 c_trial c_best c_settledBy c_views l1_38 i3_39))))
noncomputable def fX7_digest_161 (c_room : Int32) (c_finding : Int32) (c_text : jT1) (c_told : jT3) (c_events : jT3) (c_seen : jT3)  (n : Nat) : Int32 → Int32 → jT3 → jT11 → jT11 → jB3 → (Nat → Int32) → (Nat → Int32) → Int64 → Int32 → (Option (Int64 × Int32 × Int32 × jT3 × jT11 × jT11 × jB3 × (Nat → Int32) × (Nat → Int32))) := lpN (fun _ _ _ _ _ _ _ _ _ _ => none) (bX7_digest_161 c_room c_finding c_text c_told c_events c_seen ) n
noncomputable def bX7_digest_130 (c_room : Int32) (c_finding : Int32) (c_text : jT1) (c_told : jT3) (c_events : jT3) (c_seen : jT3)  (self : Int32 → Int32 → jT3 → jT11 → jT11 → jB3 → (Nat → Int32) → (Nat → Int32) → Int64 → Int32 → (Option (Int64 × Int32 × Int32 × jT3 × jT11 × jT11 × jB3 × (Nat → Int32) × (Nat → Int32)))) (c_courseKnown : Int32) (c_settledByKnown : Int32) (c_others : jT3) (c_course : jT11) (c_trial : jT11) (c_best : jB3) (c_settledBy : Nat → Int32) (c_views : Nat → Int32) (l1 : Int64) (i3 : Int32) : Option (Int64 × Int32 × Int32 × jT3 × jT11 × jT11 × jB3 × (Nat → Int32) × (Nat → Int32)) :=
  if c_told.1 ≤ i3 then (
  fX7_digest_161 c_room c_finding c_text c_told c_events c_seen jF c_courseKnown c_settledByKnown c_others c_course c_trial c_best c_settledBy c_views l1 (0 : Int32))
  else (
  bd3 (fX7_digestMonths l1 i3 c_room c_told c_events c_courseKnown c_course) (fun r_40 c_courseKnown_41 c_course_42 =>
  bd7 (fX7_digestPlans r_40 i3 c_room c_told c_events c_seen c_settledByKnown c_others c_trial c_best c_settledBy c_views) (fun r_43 c_settledByKnown_44 c_others_45 c_trial_46 c_best_47 c_settledBy_48 c_views_49 =>
  nmV (i3 + (1 : Int32)) (fun i3_50 =>
  self c_courseKnown_41 c_settledByKnown_44 c_others_45 c_course_42 c_trial_46 c_best_47 c_settledBy_48 c_views_49 r_43 i3_50))))
noncomputable def fX7_digest_130 (c_room : Int32) (c_finding : Int32) (c_text : jT1) (c_told : jT3) (c_events : jT3) (c_seen : jT3)  (n : Nat) : Int32 → Int32 → jT3 → jT11 → jT11 → jB3 → (Nat → Int32) → (Nat → Int32) → Int64 → Int32 → (Option (Int64 × Int32 × Int32 × jT3 × jT11 × jT11 × jB3 × (Nat → Int32) × (Nat → Int32))) := lpN (fun _ _ _ _ _ _ _ _ _ _ => none) (bX7_digest_130 c_room c_finding c_text c_told c_events c_seen ) n
noncomputable def bX7_digest_72 (c_room : Int32) (c_finding : Int32) (c_text : jT1) (c_told : jT3) (c_events : jT3) (c_seen : jT3)  (self : Int32 → Int32 → jT3 → jT11 → jT11 → jB3 → (Nat → Int32) → (Nat → Int32) → Int64 → Int32 → (Option (Int64 × Int32 × Int32 × jT3 × jT11 × jT11 × jB3 × (Nat → Int32) × (Nat → Int32)))) (c_courseKnown : Int32) (c_settledByKnown : Int32) (c_others : jT3) (c_course : jT11) (c_trial : jT11) (c_best : jB3) (c_settledBy : Nat → Int32) (c_views : Nat → Int32) (l1 : Int64) (i3 : Int32) : Option (Int64 × Int32 × Int32 × jT3 × jT11 × jT11 × jB3 × (Nat → Int32) × (Nat → Int32)) :=
  if (12 : Int32) < i3 then (
  fX7_digest_130 c_room c_finding c_text c_told c_events c_seen jF c_courseKnown c_settledByKnown c_others c_course c_trial c_best c_settledBy c_views l1 (0 : Int32))
  else (
  bd3 (fX7_live (3 : Int32) i3 c_room c_told c_events c_courseKnown c_course) (fun r_51 c_courseKnown_52 c_course_53 =>
  nmV ((((31 : Int64) * l1) + (Int32.toInt64 r_51))) (fun l1_54 =>
  bd3 (fX7_live (9 : Int32) i3 c_room c_told c_events c_courseKnown_52 c_course_53) (fun r_55 c_courseKnown_56 c_course_57 =>
  nmV ((((31 : Int64) * l1_54) + (Int32.toInt64 r_55))) (fun l1_58 =>
  bd3 (fX7_live (23 : Int32) i3 c_room c_told c_events c_courseKnown_56 c_course_57) (fun r_59 c_courseKnown_60 c_course_61 =>
  nmV ((((31 : Int64) * l1_58) + (Int32.toInt64 r_59))) (fun l1_62 =>
  nmV (i3 + (1 : Int32)) (fun i3_63 =>
  self c_courseKnown_60 c_settledByKnown c_others c_course_61 c_trial c_best c_settledBy c_views l1_62 i3_63))))))))
noncomputable def fX7_digest_72 (c_room : Int32) (c_finding : Int32) (c_text : jT1) (c_told : jT3) (c_events : jT3) (c_seen : jT3)  (n : Nat) : Int32 → Int32 → jT3 → jT11 → jT11 → jB3 → (Nat → Int32) → (Nat → Int32) → Int64 → Int32 → (Option (Int64 × Int32 × Int32 × jT3 × jT11 × jT11 × jB3 × (Nat → Int32) × (Nat → Int32))) := lpN (fun _ _ _ _ _ _ _ _ _ _ => none) (bX7_digest_72 c_room c_finding c_text c_told c_events c_seen ) n
noncomputable def bX7_digest_45 (c_room : Int32) (c_finding : Int32) (c_text : jT1) (c_told : jT3) (c_events : jT3) (c_seen : jT3)  (self : Int32 → Int32 → jT3 → jT11 → jT11 → jB3 → (Nat → Int32) → (Nat → Int32) → Int64 → Int32 → (Option (Int64 × Int32 × Int32 × jT3 × jT11 × jT11 × jB3 × (Nat → Int32) × (Nat → Int32)))) (c_courseKnown : Int32) (c_settledByKnown : Int32) (c_others : jT3) (c_course : jT11) (c_trial : jT11) (c_best : jB3) (c_settledBy : Nat → Int32) (c_views : Nat → Int32) (l1 : Int64) (i3 : Int32) : Option (Int64 × Int32 × Int32 × jT3 × jT11 × jT11 × jB3 × (Nat → Int32) × (Nat → Int32)) :=
  if (24 : Int32) ≤ i3 then (
  fX7_digest_72 c_room c_finding c_text c_told c_events c_seen jF c_courseKnown c_settledByKnown c_others c_course c_trial c_best c_settledBy c_views l1 (0 : Int32))
  else (
  bd3 (fX7_lift i3 c_room c_told c_events c_courseKnown c_course) (fun r_64 c_courseKnown_65 c_course_66 =>
  nmV ((((31 : Int64) * l1) + (Int32.toInt64 r_64))) (fun l1_67 =>
  nmV (i3 + (1 : Int32)) (fun i3_68 =>
  self c_courseKnown_65 c_settledByKnown c_others c_course_66 c_trial c_best c_settledBy c_views l1_67 i3_68))))
noncomputable def fX7_digest_45 (c_room : Int32) (c_finding : Int32) (c_text : jT1) (c_told : jT3) (c_events : jT3) (c_seen : jT3)  (n : Nat) : Int32 → Int32 → jT3 → jT11 → jT11 → jB3 → (Nat → Int32) → (Nat → Int32) → Int64 → Int32 → (Option (Int64 × Int32 × Int32 × jT3 × jT11 × jT11 × jB3 × (Nat → Int32) × (Nat → Int32))) := lpN (fun _ _ _ _ _ _ _ _ _ _ => none) (bX7_digest_45 c_room c_finding c_text c_told c_events c_seen ) n
noncomputable def bX7_digest_6 (c_room : Int32) (c_finding : Int32) (c_text : jT1) (c_told : jT3) (c_events : jT3) (c_seen : jT3)  (self : Int32 → Int32 → jT3 → jT11 → jT11 → jB3 → (Nat → Int32) → (Nat → Int32) → Int64 → Int32 → (Option (Int64 × Int32 × Int32 × jT3 × jT11 × jT11 × jB3 × (Nat → Int32) × (Nat → Int32)))) (c_courseKnown : Int32) (c_settledByKnown : Int32) (c_others : jT3) (c_course : jT11) (c_trial : jT11) (c_best : jB3) (c_settledBy : Nat → Int32) (c_views : Nat → Int32) (l1 : Int64) (i3 : Int32) : Option (Int64 × Int32 × Int32 × jT3 × jT11 × jT11 × jB3 × (Nat → Int32) × (Nat → Int32)) :=
  if (7 : Int32) < i3 then (
  bd1 (fX7_fault c_text) (fun r_1 =>
  nmV ((((31 : Int64) * l1) + (Int32.toInt64 r_1))) (fun l1_2 =>
  fX7_digest_45 c_room c_finding c_text c_told c_events c_seen jF c_courseKnown c_settledByKnown c_others c_course c_trial c_best c_settledBy c_views l1_2 (0 : Int32))))
  else (
  bd3 (fX7_count i3 c_room c_finding c_text.1 c_told c_events c_seen.1 c_courseKnown c_course) (fun r_69 c_courseKnown_70 c_course_71 =>
  nmV ((((31 : Int64) * l1) + (Int32.toInt64 r_69))) (fun l1_72 =>
  nmV (i3 + (1 : Int32)) (fun i3_73 =>
  self c_courseKnown_70 c_settledByKnown c_others c_course_71 c_trial c_best c_settledBy c_views l1_72 i3_73))))
noncomputable def fX7_digest_6 (c_room : Int32) (c_finding : Int32) (c_text : jT1) (c_told : jT3) (c_events : jT3) (c_seen : jT3)  (n : Nat) : Int32 → Int32 → jT3 → jT11 → jT11 → jB3 → (Nat → Int32) → (Nat → Int32) → Int64 → Int32 → (Option (Int64 × Int32 × Int32 × jT3 × jT11 × jT11 × jB3 × (Nat → Int32) × (Nat → Int32))) := lpN (fun _ _ _ _ _ _ _ _ _ _ => none) (bX7_digest_6 c_room c_finding c_text c_told c_events c_seen ) n
noncomputable def fX7_digest (c_room : Int32) (c_finding : Int32) (c_text : jT1) (c_told : jT3) (c_events : jT3) (c_seen : jT3) (c_courseKnown : Int32) (c_settledByKnown : Int32) (c_others : jT3) (c_course : jT11) (c_trial : jT11) (c_best : jB3) (c_settledBy : Nat → Int32) (c_views : Nat → Int32) : Option (Int64 × Int32 × Int32 × jT3 × jT11 × jT11 × jB3 × (Nat → Int32) × (Nat → Int32)) :=
  fX7_digest_6 c_room c_finding c_text c_told c_events c_seen jF c_courseKnown c_settledByKnown c_others c_course c_trial c_best c_settledBy c_views (17 : Int64) (0 : Int32)
noncomputable def fX8_in (l0 : Int64) (l2 : Int64) (l4 : Int64) : Option (Int32) :=
  if (lg_cmp l0 l2) < (0 : Int32) then (
  some ((0 : Int32)))
  else (
  if (0 : Int32) < (lg_cmp l0 l4) then (
  some ((0 : Int32)))
  else (
  some ((1 : Int32))))
noncomputable def fX8_no (i0 : Int32) : Option (Int64) :=
  some (((-9223372036854775808 : Int64) - (Int32.toInt64 i0)))
noncomputable def fX8_isTwo (i0 : Int32) : Option (Int32) :=
  bd1 (fX8_in (Int32.toInt64 i0) (0 : Int64) (1 : Int64)) (fun r_1 =>
  ckB r_1 (
  some (r_1)))
noncomputable def fX8_isIn (i0 : Int32) (i1 : Int32) : Option (Int32) :=
  if ((i0 >>> (i1 &&& (31 : Int32))) &&& (1 : Int32)) = (1 : Int32) then (
  some ((1 : Int32)))
  else (
  some ((0 : Int32)))
noncomputable def fX8_lesser (i0 : Int32) (i1 : Int32) : Option (Int32) :=
  if i1 ≤ i0 then (
  some (i1))
  else (
  some (i0))
noncomputable def fX8_greater (i0 : Int32) (i1 : Int32) : Option (Int32) :=
  if i0 ≤ i1 then (
  some (i1))
  else (
  some (i0))
noncomputable def bX8_part_6 (l0 : Int64) (l2 : Int64) (i4 : Int32)  (self : Int64 → Int64 → Option (Int64)) (l5 : Int64) (l7 : Int64) : Option (Int64) :=
  if (lg_cmp l7 (0 : Int64)) = (0 : Int32) then (
  if i4 = (0 : Int32) then (
  ckZL l5 (
  some ((l0 / l5))))
  else (
  ckZL l5 (
  some ((l2 / l5)))))
  else (
  ckZL l7 (
  nmV ((l5 - l5 / l7 * l7)) (fun l9_1 =>
  self l7 l9_1)))
noncomputable def fX8_part_6 (l0 : Int64) (l2 : Int64) (i4 : Int32)  (n : Nat) : Int64 → Int64 → Option (Int64) := lpN (fun _ _ => none) (bX8_part_6 l0 l2 i4 ) n
noncomputable def fX8_part (l0 : Int64) (l2 : Int64) (i4 : Int32) : Option (Int64) :=
  fX8_part_6 l0 l2 i4 jF l0 l2
noncomputable def fX8_finds (i1 : Int32) (c_latest : Int32) : Option (Int32 × Int32) :=
  some (((-10 : Int32) - i1), i1)
noncomputable def fX8_isSheet (i0 : Int32) : Option (Int32) :=
  bd1 (fX8_in (Int32.toInt64 i0) (0 : Int64) (3 : Int64)) (fun r_1 =>
  ckB r_1 (
  some (r_1)))
noncomputable def bX8_sheet_55 (i1 : Int32) (i2 : Int32) (i3 : Int32)  (self : Int32 → (Nat → Int32) → (Nat → Int32) → (Nat → Int32) → Int32 → (Option (Int32 × Int32 × (Nat → Int32) × (Nat → Int32) × (Nat → Int32)))) (c_latest : Int32) (c_forms : Nat → Int32) (c_sizes : Nat → Int32) (c_items : Nat → Int32) (i4 : Int32) : Option (Int32 × Int32 × (Nat → Int32) × (Nat → Int32) × (Nat → Int32)) :=
  if i3 ≤ i4 then (
  some (i3, c_latest, c_forms, c_sizes, c_items))
  else (
  wrI 240 c_items (((60 : Int32) * i1) + i4) (0 : Int32) (fun c_items_5 =>
  nmV (i4 + (1 : Int32)) (fun i4_6 =>
  self c_latest c_forms c_sizes c_items_5 i4_6)))
noncomputable def fX8_sheet_55 (i1 : Int32) (i2 : Int32) (i3 : Int32)  (n : Nat) : Int32 → (Nat → Int32) → (Nat → Int32) → (Nat → Int32) → Int32 → (Option (Int32 × Int32 × (Nat → Int32) × (Nat → Int32) × (Nat → Int32))) := lpN (fun _ _ _ _ _ => none) (bX8_sheet_55 i1 i2 i3 ) n
noncomputable def fX8_sheet (i1 : Int32) (i2 : Int32) (i3 : Int32) (c_latest : Int32) (c_forms : Nat → Int32) (c_sizes : Nat → Int32) (c_items : Nat → Int32) : Option (Int32 × Int32 × (Nat → Int32) × (Nat → Int32) × (Nat → Int32)) :=
  bd1 (fX8_isSheet i1) (fun r_1 =>
  if r_1 = (0 : Int32) then (
  some ((-2 : Int32), c_latest, c_forms, c_sizes, c_items))
  else (
  bd1 (fX8_in (Int32.toInt64 i2) (0 : Int64) (2 : Int64)) (fun r_2 =>
  if r_2 = (0 : Int32) then (
  some ((-2 : Int32), c_latest, c_forms, c_sizes, c_items))
  else (
  if i3 ≤ (60 : Int32) then (
  if (0 : Int32) ≤ i3 then (
  wrI 4 c_forms i1 i2 (fun c_forms_3 =>
  wrI 4 c_sizes i1 i3 (fun c_sizes_4 =>
  fX8_sheet_55 i1 i2 i3 jF c_latest c_forms_3 c_sizes_4 c_items (0 : Int32))))
  else (
  bd2 (fX8_finds (5 : Int32) c_latest) (fun r_7 c_latest_8 =>
  some (r_7, c_latest_8, c_forms, c_sizes, c_items))))
  else (
  some ((-2 : Int32), c_latest, c_forms, c_sizes, c_items))))))
noncomputable def fX8_lose (i1 : Int32) (c_sizes : Nat → Int32) (c_latest : Int32) (c_forms : Nat → Int32) : Option (Int32 × Int32 × (Nat → Int32)) :=
  bd1 (fX8_isSheet i1) (fun r_1 =>
  if r_1 = (0 : Int32) then (
  some ((-2 : Int32), c_latest, c_forms))
  else (
  rdA 4 c_forms i1 (fun v_2 =>
  if (0 : Int32) ≤ v_2 then (
  wrI 4 c_forms i1 (-1 : Int32) (fun c_forms_3 =>
  rdA 4 c_sizes i1 (fun v_4 =>
  some (v_4, c_latest, c_forms_3))))
  else (
  bd2 (fX8_finds (1 : Int32) c_latest) (fun r_5 c_latest_6 =>
  some (r_5, c_latest_6, c_forms))))))
noncomputable def fX8_lacks (i1 : Int32) (i2 : Int32) (i3 : Int32) (c_forms : Nat → Int32) (c_sizes : Nat → Int32) (c_latest : Int32) : Option (Int32 × Int32) :=
  rdA 4 c_forms i1 (fun v_1 =>
  if (0 : Int32) ≤ v_1 then (
  rdA 4 c_forms i1 (fun v_2 =>
  if v_2 = i2 then (
  rdA 4 c_sizes i1 (fun v_3 =>
  bd1 (fX8_in (Int32.toInt64 i3) (0 : Int64) (Int32.toInt64 (v_3 - (1 : Int32)))) (fun r_4 =>
  if r_4 = (0 : Int32) then (
  bd2 (fX8_finds (2 : Int32) c_latest) (fun r_5 c_latest_6 =>
  some (r_5, c_latest_6)))
  else (
  some ((0 : Int32), c_latest)))))
  else (
  bd2 (fX8_finds (3 : Int32) c_latest) (fun r_7 c_latest_8 =>
  some (r_7, c_latest_8)))))
  else (
  bd2 (fX8_finds (1 : Int32) c_latest) (fun r_9 c_latest_10 =>
  some (r_9, c_latest_10))))
noncomputable def fX8_cut (i0 : Int32) (i1 : Int32) : Option (Int32) :=
  if i0 = (0 : Int32) then (
  some ((Int8.toInt32 (Int32.toInt8 i1))))
  else (
  if i0 = (1 : Int32) then (
  some ((Int16.toInt32 (Int32.toInt16 i1))))
  else (
  some (i1)))
noncomputable def fX8_lay (i1 : Int32) (i2 : Int32) (i3 : Int32) (i4 : Int32) (c_forms : Nat → Int32) (c_sizes : Nat → Int32) (c_latest : Int32) (c_items : Nat → Int32) : Option (Int32 × Int32 × (Nat → Int32)) :=
  bd1 (fX8_isSheet i1) (fun r_1 =>
  if r_1 = (0 : Int32) then (
  some ((-2 : Int32), c_latest, c_items))
  else (
  bd1 (fX8_in (Int32.toInt64 i2) (0 : Int64) (2 : Int64)) (fun r_2 =>
  if r_2 = (0 : Int32) then (
  some ((-2 : Int32), c_latest, c_items))
  else (
  bd2 (fX8_lacks i1 i2 i3 c_forms c_sizes c_latest) (fun r_3 c_latest_4 =>
  if r_3 = (0 : Int32) then (
  bd1 (fX8_cut i2 i4) (fun r_5 =>
  wrI 240 c_items (((60 : Int32) * i1) + i3) r_5 (fun c_items_6 =>
  some ((1 : Int32), c_latest_4, c_items_6))))
  else (
  some (r_3, c_latest_4, c_items)))))))
noncomputable def fX8_get (i1 : Int32) (i2 : Int32) (i3 : Int32) (c_forms : Nat → Int32) (c_sizes : Nat → Int32) (c_items : Nat → Int32) (c_latest : Int32) : Option (Int32 × Int32) :=
  bd1 (fX8_isSheet i1) (fun r_1 =>
  if r_1 = (0 : Int32) then (
  some ((-2147483648 : Int32), c_latest))
  else (
  bd1 (fX8_in (Int32.toInt64 i2) (0 : Int64) (2 : Int64)) (fun r_2 =>
  if r_2 = (0 : Int32) then (
  some ((-2147483648 : Int32), c_latest))
  else (
  bd2 (fX8_lacks i1 i2 i3 c_forms c_sizes c_latest) (fun r_3 c_latest_4 =>
  if r_3 = (0 : Int32) then (
  rdA 240 c_items (((60 : Int32) * i1) + i3) (fun v_5 =>
  some (v_5, c_latest_4)))
  else (
  some ((-2147483648 : Int32), c_latest_4)))))))
noncomputable def fX8_copy_35 (i1 : Int32) (i2 : Int32) (i3 : Int32) (i4 : Int32) (i5 : Int32) (c_forms : Nat → Int32) (c_sizes : Nat → Int32)  (c_latest : Int32) (c_items : Nat → Int32) (c_moved : Nat → Int32) : Option (Int32 × Int32 × (Nat → Int32) × (Nat → Int32)) :=
  bd2 (fX8_finds (1 : Int32) c_latest) (fun r_4 c_latest_5 =>
  some (r_4, c_latest_5, c_items, c_moved))
noncomputable def fX8_copy_111 (i1 : Int32) (i2 : Int32) (i3 : Int32) (i4 : Int32) (i5 : Int32) (c_forms : Nat → Int32) (c_sizes : Nat → Int32)  (c_latest : Int32) (c_items : Nat → Int32) (c_moved : Nat → Int32) : Option (Int32 × Int32 × (Nat → Int32) × (Nat → Int32)) :=
  bd2 (fX8_finds (2 : Int32) c_latest) (fun r_9 c_latest_10 =>
  some (r_9, c_latest_10, c_items, c_moved))
noncomputable def bX8_copy_157 (i1 : Int32) (i2 : Int32) (i3 : Int32) (i4 : Int32) (i5 : Int32) (c_forms : Nat → Int32) (c_sizes : Nat → Int32)  (self : Int32 → (Nat → Int32) → (Nat → Int32) → Int32 → (Option (Int32 × Int32 × (Nat → Int32) × (Nat → Int32)))) (c_latest : Int32) (c_items : Nat → Int32) (c_moved : Nat → Int32) (i6 : Int32) : Option (Int32 × Int32 × (Nat → Int32) × (Nat → Int32)) :=
  if i5 ≤ i6 then (
  some ((1 : Int32), c_latest, c_items, c_moved))
  else (
  rdA 60 c_moved i6 (fun v_13 =>
  wrI 240 c_items ((((60 : Int32) * i3) + i4) + i6) v_13 (fun c_items_14 =>
  nmV (i6 + (1 : Int32)) (fun i6_15 =>
  self c_latest c_items_14 c_moved i6_15))))
noncomputable def fX8_copy_157 (i1 : Int32) (i2 : Int32) (i3 : Int32) (i4 : Int32) (i5 : Int32) (c_forms : Nat → Int32) (c_sizes : Nat → Int32)  (n : Nat) : Int32 → (Nat → Int32) → (Nat → Int32) → Int32 → (Option (Int32 × Int32 × (Nat → Int32) × (Nat → Int32))) := lpN (fun _ _ _ _ => none) (bX8_copy_157 i1 i2 i3 i4 i5 c_forms c_sizes ) n
noncomputable def bX8_copy_120 (i1 : Int32) (i2 : Int32) (i3 : Int32) (i4 : Int32) (i5 : Int32) (c_forms : Nat → Int32) (c_sizes : Nat → Int32)  (self : Int32 → (Nat → Int32) → (Nat → Int32) → Int32 → (Option (Int32 × Int32 × (Nat → Int32) × (Nat → Int32)))) (c_latest : Int32) (c_items : Nat → Int32) (c_moved : Nat → Int32) (i6 : Int32) : Option (Int32 × Int32 × (Nat → Int32) × (Nat → Int32)) :=
  if i5 ≤ i6 then (
  fX8_copy_157 i1 i2 i3 i4 i5 c_forms c_sizes jF c_latest c_items c_moved (0 : Int32))
  else (
  rdA 240 c_items ((((60 : Int32) * i1) + i2) + i6) (fun v_16 =>
  wrI 60 c_moved i6 v_16 (fun c_moved_17 =>
  nmV (i6 + (1 : Int32)) (fun i6_18 =>
  self c_latest c_items c_moved_17 i6_18))))
noncomputable def fX8_copy_120 (i1 : Int32) (i2 : Int32) (i3 : Int32) (i4 : Int32) (i5 : Int32) (c_forms : Nat → Int32) (c_sizes : Nat → Int32)  (n : Nat) : Int32 → (Nat → Int32) → (Nat → Int32) → Int32 → (Option (Int32 × Int32 × (Nat → Int32) × (Nat → Int32))) := lpN (fun _ _ _ _ => none) (bX8_copy_120 i1 i2 i3 i4 i5 c_forms c_sizes ) n
noncomputable def fX8_copy (i1 : Int32) (i2 : Int32) (i3 : Int32) (i4 : Int32) (i5 : Int32) (c_forms : Nat → Int32) (c_sizes : Nat → Int32) (c_latest : Int32) (c_items : Nat → Int32) (c_moved : Nat → Int32) : Option (Int32 × Int32 × (Nat → Int32) × (Nat → Int32)) :=
  bd1 (fX8_isSheet i1) (fun r_1 =>
  if r_1 = (0 : Int32) then (
  some ((-2 : Int32), c_latest, c_items, c_moved))
  else (
  bd1 (fX8_isSheet i3) (fun r_2 =>
  if r_2 = (0 : Int32) then (
  some ((-2 : Int32), c_latest, c_items, c_moved))
  else (
  rdA 4 c_forms i1 (fun v_3 =>
  if v_3 < (0 : Int32) then (
  fX8_copy_35 i1 i2 i3 i4 i5 c_forms c_sizes c_latest c_items c_moved)
  else (
  rdA 4 c_forms i3 (fun v_6 =>
  if (0 : Int32) ≤ v_6 then (
  rdA 4 c_forms i1 (fun v_7 =>
  rdA 4 c_forms i3 (fun v_8 =>
  if v_7 = v_8 then (
  if i2 < (0 : Int32) then (
  fX8_copy_111 i1 i2 i3 i4 i5 c_forms c_sizes c_latest c_items c_moved)
  else (
  if i4 < (0 : Int32) then (
  fX8_copy_111 i1 i2 i3 i4 i5 c_forms c_sizes c_latest c_items c_moved)
  else (
  if i5 < (0 : Int32) then (
  fX8_copy_111 i1 i2 i3 i4 i5 c_forms c_sizes c_latest c_items c_moved)
  else (
  rdA 4 c_sizes i1 (fun v_11 =>
  if (0 : Int32) < (lg_cmp ((Int32.toInt64 i2) + (Int32.toInt64 i5)) (Int32.toInt64 v_11)) then (
  fX8_copy_111 i1 i2 i3 i4 i5 c_forms c_sizes c_latest c_items c_moved)
  else (
  rdA 4 c_sizes i3 (fun v_12 =>
  if (lg_cmp ((Int32.toInt64 i4) + (Int32.toInt64 i5)) (Int32.toInt64 v_12)) ≤ (0 : Int32) then (
  fX8_copy_120 i1 i2 i3 i4 i5 c_forms c_sizes jF c_latest c_items c_moved (0 : Int32))
  else (
  fX8_copy_111 i1 i2 i3 i4 i5 c_forms c_sizes c_latest c_items c_moved))))))))
  else (
  bd2 (fX8_finds (4 : Int32) c_latest) (fun r_19 c_latest_20 =>
  some (r_19, c_latest_20, c_items, c_moved))))))
  else (
  fX8_copy_35 i1 i2 i3 i4 i5 c_forms c_sizes c_latest c_items c_moved))))))))
noncomputable def fX8_type (i1 : Int32) (c_typed : Int32) (c_bytes : Nat → Int32) : Option (Int32 × Int32 × (Nat → Int32)) :=
  bd1 (fX8_in (Int32.toInt64 i1) (0 : Int64) (255 : Int64)) (fun r_1 =>
  if r_1 = (0 : Int32) then (
  some ((-2 : Int32), c_typed, c_bytes))
  else (
  if c_typed = (31 : Int32) then (
  some ((-4 : Int32), c_typed, c_bytes))
  else (
  wrI 31 c_bytes c_typed i1 (fun c_bytes_2 =>
  nmV ((c_typed + (1 : Int32))) (fun c_typed_3 =>
  some (c_typed_3, c_typed_3, c_bytes_2))))))
noncomputable def fX8_wipe (c_typed : Int32) : Option (Int32 × Int32) :=
  some (c_typed, (0 : Int32))
noncomputable def fX8_undo (c_typed : Int32) : Option (Int32 × Int32) :=
  if c_typed = (0 : Int32) then (
  some ((-3 : Int32), c_typed))
  else (
  nmV ((c_typed - (1 : Int32))) (fun c_typed_1 =>
  some (c_typed_1, c_typed_1)))
noncomputable def fX8_tenantOf (i0 : Int32) (i1 : Int32) : Option (Int32) :=
  if i0 = (0 : Int32) then (
  if i1 = (111 : Int32) then (
  some ((0 : Int32)))
  else (
  if i1 = (112 : Int32) then (
  some ((1 : Int32)))
  else (
  if i1 = (99 : Int32) then (
  some ((2 : Int32)))
  else (
  if i1 = (114 : Int32) then (
  some ((3 : Int32)))
  else (
  some ((-9 : Int32)))))))
  else (
  if i0 = (3 : Int32) then (
  if i1 = (59 : Int32) then (
  some ((0 : Int32)))
  else (
  some ((-9 : Int32))))
  else (
  bd1 (fX8_in (Int32.toInt64 i1) (48 : Int64) (57 : Int64)) (fun r_1 =>
  if r_1 = (0 : Int32) then (
  some ((-9 : Int32)))
  else (
  some ((i1 - (48 : Int32)))))))
noncomputable def fX8_reads_76 (c_typed : Int32) (c_bytes : Nat → Int32) (q_7 : Int32 → (Nat → Int32) → Int32 → (Option (Int32 × Int32 × (Nat → Int32)))) (c_tenants : Int32) (c_tenant : Nat → Int32) (i1 : Int32) (t0 : Int32) (t1 : Int32) : Option (Int32 × Int32 × (Nat → Int32)) :=
  nmV ((t1 + t0)) (fun c_tenants_4 =>
  nmV (i1 + (1 : Int32)) (fun i1_5 =>
  q_7 c_tenants_4 c_tenant i1_5))
noncomputable def fX8_reads_61 (c_typed : Int32) (c_bytes : Nat → Int32) (q_7 : Int32 → (Nat → Int32) → Int32 → (Option (Int32 × Int32 × (Nat → Int32)))) (c_tenants : Int32) (c_tenant : Nat → Int32) (i1 : Int32) (i2 : Int32) : Option (Int32 × Int32 × (Nat → Int32)) :=
  if i2 = (2 : Int32) then (
  fX8_reads_76 c_typed c_bytes q_7 c_tenants c_tenant i1 (1 : Int32) c_tenants)
  else (
  fX8_reads_76 c_typed c_bytes q_7 c_tenants c_tenant i1 (0 : Int32) c_tenants)
noncomputable def bX8_reads_7 (c_typed : Int32) (c_bytes : Nat → Int32)  (self : Int32 → (Nat → Int32) → Int32 → (Option (Int32 × Int32 × (Nat → Int32)))) (c_tenants : Int32) (c_tenant : Nat → Int32) (i1 : Int32) : Option (Int32 × Int32 × (Nat → Int32)) :=
  if c_typed ≤ i1 then (
  if c_typed ≤ (0 : Int32) then (
  some ((-1 : Int32), c_tenants, c_tenant))
  else (
  if (c_typed - c_typed / (4 : Int32) * (4 : Int32)) = (3 : Int32) then (
  some ((-1 : Int32), c_tenants, c_tenant))
  else (
  some (c_typed, (0 : Int32), c_tenant))))
  else (
  nmV ((i1 - i1 / (4 : Int32) * (4 : Int32))) (fun i2_1 =>
  rdA 31 c_bytes i1 (fun v_2 =>
  bd1 (fX8_tenantOf i2_1 v_2) (fun r_3 =>
  if r_3 = (-9 : Int32) then (
  some (i1, (0 : Int32), c_tenant))
  else (
  if (3 : Int32) ≤ i2_1 then (
  fX8_reads_61 c_typed c_bytes self c_tenants c_tenant i1 i2_1)
  else (
  wrI 24 c_tenant (((3 : Int32) * (i1 / (4 : Int32))) + i2_1) r_3 (fun c_tenant_6 =>
  fX8_reads_61 c_typed c_bytes self c_tenants c_tenant_6 i1 i2_1)))))))
noncomputable def fX8_reads_7 (c_typed : Int32) (c_bytes : Nat → Int32)  (n : Nat) : Int32 → (Nat → Int32) → Int32 → (Option (Int32 × Int32 × (Nat → Int32))) := lpN (fun _ _ _ => none) (bX8_reads_7 c_typed c_bytes ) n
noncomputable def fX8_reads (c_typed : Int32) (c_bytes : Nat → Int32) (c_tenants : Int32) (c_tenant : Nat → Int32) : Option (Int32 × Int32 × (Nat → Int32)) :=
  fX8_reads_7 c_typed c_bytes jF (0 : Int32) c_tenant (0 : Int32)
noncomputable def fX8_fault (c_typed : Int32) (c_bytes : Nat → Int32) (c_tenants : Int32) (c_tenant : Nat → Int32) : Option (Int32 × Int32 × (Nat → Int32)) :=
  bd3 (fX8_reads c_typed c_bytes c_tenants c_tenant) (fun r_1 c_tenants_2 c_tenant_3 =>
  some (r_1, c_tenants_2, c_tenant_3))
noncomputable def fX8_isMonth (i0 : Int32) : Option (Int32) :=
  bd1 (fX8_in (Int32.toInt64 i0) (0 : Int64) (23 : Int64)) (fun r_1 =>
  ckB r_1 (
  some (r_1)))
noncomputable def fX8_isTenant (i1 : Int32) (c_tenants : Int32) : Option (Int32) :=
  bd1 (fX8_in (Int32.toInt64 i1) (0 : Int64) (Int32.toInt64 (c_tenants - (1 : Int32)))) (fun r_1 =>
  ckB r_1 (
  some (r_1)))
noncomputable def fX8_tenant (i1 : Int32) (i2 : Int32) (c_typed : Int32) (c_bytes : Nat → Int32) (c_tenants : Int32) (c_tenant : Nat → Int32) : Option (Int32 × Int32 × (Nat → Int32)) :=
  bd3 (fX8_reads c_typed c_bytes c_tenants c_tenant) (fun r_1 c_tenants_2 c_tenant_3 =>
  bd1 (fX8_isTenant i1 c_tenants_2) (fun r_4 =>
  if r_4 = (0 : Int32) then (
  some ((-2 : Int32), c_tenants_2, c_tenant_3))
  else (
  bd1 (fX8_in (Int32.toInt64 i2) (0 : Int64) (2 : Int64)) (fun r_5 =>
  if r_5 = (0 : Int32) then (
  some ((-2 : Int32), c_tenants_2, c_tenant_3))
  else (
  rdA 24 c_tenant_3 (((3 : Int32) * i1) + i2) (fun v_6 =>
  some (v_6, c_tenants_2, c_tenant_3)))))))
noncomputable def fX8_room (i1 : Int32) (c_room : Int32) : Option (Int32 × Int32) :=
  bd1 (fX8_in (Int32.toInt64 i1) (1 : Int64) (8 : Int64)) (fun r_1 =>
  if r_1 = (0 : Int32) then (
  some ((-2 : Int32), c_room))
  else (
  some (c_room, i1)))
noncomputable def fX8_event (i1 : Int32) (i2 : Int32) (i3 : Int32) (c_events : Int32) (c_event : Nat → Int32) : Option (Int32 × Int32 × (Nat → Int32)) :=
  bd1 (fX8_in (Int32.toInt64 i1) (0 : Int64) (2 : Int64)) (fun r_1 =>
  if r_1 = (0 : Int32) then (
  some ((-2 : Int32), c_events, c_event))
  else (
  bd1 (fX8_isMonth i2) (fun r_2 =>
  if r_2 = (0 : Int32) then (
  some ((-2 : Int32), c_events, c_event))
  else (
  bd1 (fX8_in (Int32.toInt64 i3) (0 : Int64) (7 : Int64)) (fun r_3 =>
  if r_3 = (0 : Int32) then (
  some ((-2 : Int32), c_events, c_event))
  else (
  if c_events = (8 : Int32) then (
  some ((-4 : Int32), c_events, c_event))
  else (
  wrI 24 c_event ((3 : Int32) * c_events) i1 (fun c_event_4 =>
  wrI 24 c_event_4 (((3 : Int32) * c_events) + (1 : Int32)) i2 (fun c_event_5 =>
  wrI 24 c_event_5 (((3 : Int32) * c_events) + (2 : Int32)) i3 (fun c_event_6 =>
  nmV ((c_events + (1 : Int32))) (fun c_events_7 =>
  some (c_events_7, c_events_7, c_event_6))))))))))))
noncomputable def fX8_back (c_events : Int32) : Option (Int32 × Int32) :=
  if c_events = (0 : Int32) then (
  some ((-3 : Int32), c_events))
  else (
  nmV ((c_events - (1 : Int32))) (fun c_events_1 =>
  some (c_events_1, c_events_1)))
noncomputable def fX8_read_105 (i1 : Int32) (c_forms : Nat → Int32) (c_sizes : Nat → Int32) (c_items : Nat → Int32) (q_29 : Int32 → Int32 → (Nat → Int32) → Int32 → Int32 → (Option (Int32 × Int32 × Int32 × (Nat → Int32)))) (c_latest : Int32) (c_events : Int32) (c_event : Nat → Int32) (i3 : Int32) (t0 : Int32) (t1 : Int32) : Option (Int32 × Int32 × Int32 × (Nat → Int32)) :=
  nmV ((t1 + t0)) (fun i2_11 =>
  q_29 c_latest c_events c_event i2_11 i3)
noncomputable def fX8_read_94 (i1 : Int32) (c_forms : Nat → Int32) (c_sizes : Nat → Int32) (c_items : Nat → Int32) (q_29 : Int32 → Int32 → (Nat → Int32) → Int32 → Int32 → (Option (Int32 × Int32 × Int32 × (Nat → Int32)))) (c_latest : Int32) (c_events : Int32) (c_event : Nat → Int32) (i2 : Int32) (t0 : Int32) : Option (Int32 × Int32 × Int32 × (Nat → Int32)) :=
  if t0 = (0 : Int32) then (
  fX8_read_105 i1 c_forms c_sizes c_items q_29 c_latest c_events c_event t0 (0 : Int32) i2)
  else (
  fX8_read_105 i1 c_forms c_sizes c_items q_29 c_latest c_events c_event t0 (1 : Int32) i2)
noncomputable def bX8_read_29 (i1 : Int32) (c_forms : Nat → Int32) (c_sizes : Nat → Int32) (c_items : Nat → Int32)  (self : Int32 → Int32 → (Nat → Int32) → Int32 → Int32 → (Option (Int32 × Int32 × Int32 × (Nat → Int32)))) (c_latest : Int32) (c_events : Int32) (c_event : Nat → Int32) (i2 : Int32) (i3 : Int32) : Option (Int32 × Int32 × Int32 × (Nat → Int32)) :=
  if i3 = (0 : Int32) then (
  some (i2, c_latest, c_events, c_event))
  else (
  rdA 4 c_sizes i1 (fun v_3 =>
  if v_3 < (((3 : Int32) * i2) + (3 : Int32)) then (
  some (i2, c_latest, c_events, c_event))
  else (
  nmV ((((60 : Int32) * i1) + ((3 : Int32) * i2))) (fun i4_4 =>
  rdA 240 c_items i4_4 (fun v_5 =>
  rdA 240 c_items (i4_4 + (1 : Int32)) (fun v_6 =>
  rdA 240 c_items (i4_4 + (2 : Int32)) (fun v_7 =>
  bd3 (fX8_event v_5 v_6 v_7 c_events c_event) (fun r_8 c_events_9 c_event_10 =>
  if r_8 < (0 : Int32) then (
  fX8_read_94 i1 c_forms c_sizes c_items self c_latest c_events_9 c_event_10 i2 (0 : Int32))
  else (
  fX8_read_94 i1 c_forms c_sizes c_items self c_latest c_events_9 c_event_10 i2 (1 : Int32))))))))))
noncomputable def fX8_read_29 (i1 : Int32) (c_forms : Nat → Int32) (c_sizes : Nat → Int32) (c_items : Nat → Int32)  (n : Nat) : Int32 → Int32 → (Nat → Int32) → Int32 → Int32 → (Option (Int32 × Int32 × Int32 × (Nat → Int32))) := lpN (fun _ _ _ _ _ => none) (bX8_read_29 i1 c_forms c_sizes c_items ) n
noncomputable def fX8_read (i1 : Int32) (c_forms : Nat → Int32) (c_sizes : Nat → Int32) (c_items : Nat → Int32) (c_latest : Int32) (c_events : Int32) (c_event : Nat → Int32) : Option (Int32 × Int32 × Int32 × (Nat → Int32)) :=
  bd1 (fX8_isSheet i1) (fun r_1 =>
  if r_1 = (0 : Int32) then (
  some ((-2 : Int32), c_latest, c_events, c_event))
  else (
  rdA 4 c_forms i1 (fun v_2 =>
  if (0 : Int32) ≤ v_2 then (
  fX8_read_29 i1 c_forms c_sizes c_items jF c_latest c_events c_event (0 : Int32) (1 : Int32))
  else (
  bd2 (fX8_finds (1 : Int32) c_latest) (fun r_12 c_latest_13 =>
  some (r_12, c_latest_13, c_events, c_event))))))
noncomputable def fX8_happens_127 (i1 : Int32) (c_tenants : Int32) (c_events : Int32) (c_gone : Int32) (c_event : Nat → Int32) (c_settled : Nat → Int32) (q_7 : Int32 → (Nat → Int32) → Int32 → (Option (Int32 × (Nat → Int32)))) (c_audit : Int32) (c_left : Nat → Int32) (i2 : Int32) : Option (Int32 × (Nat → Int32)) :=
  nmV (i2 + (1 : Int32)) (fun i2_2 =>
  q_7 c_audit c_left i2_2)
noncomputable def fX8_happens_125 (i1 : Int32) (c_tenants : Int32) (c_events : Int32) (c_gone : Int32) (c_event : Nat → Int32) (c_settled : Nat → Int32) (q_7 : Int32 → (Nat → Int32) → Int32 → (Option (Int32 × (Nat → Int32)))) (c_audit : Int32) (c_left : Nat → Int32) (i2 : Int32) (t0 : Int32) (t1 : Int32) (t2 : Int32) : Option (Int32 × (Nat → Int32)) :=
  wrI 8 c_left t2 (t1 + t0) (fun c_left_9 =>
  fX8_happens_127 i1 c_tenants c_events c_gone c_event c_settled q_7 c_audit c_left_9 i2)
noncomputable def fX8_happens_79 (i1 : Int32) (c_tenants : Int32) (c_events : Int32) (c_gone : Int32) (c_event : Nat → Int32) (c_settled : Nat → Int32) (q_7 : Int32 → (Nat → Int32) → Int32 → (Option (Int32 × (Nat → Int32)))) (c_audit : Int32) (c_left : Nat → Int32) (i2 : Int32) (i3 : Int32) (i4 : Int32) (t0 : Int32) : Option (Int32 × (Nat → Int32)) :=
  ckB t0 (
  if (2 : Int32) ≤ i3 then (
  fX8_happens_127 i1 c_tenants c_events c_gone c_event c_settled q_7 t0 c_left i2)
  else (
  bd1 (fX8_isTenant i4 c_tenants) (fun r_6 =>
  if r_6 = (0 : Int32) then (
  fX8_happens_127 i1 c_tenants c_events c_gone c_event c_settled q_7 t0 c_left i2)
  else (
  rdA 8 c_settled i4 (fun v_7 =>
  if v_7 = (-1 : Int32) then (
  rdA 8 c_left i4 (fun v_8 =>
  if i3 = (0 : Int32) then (
  fX8_happens_125 i1 c_tenants c_events c_gone c_event c_settled q_7 t0 c_left i2 (-4 : Int32) v_8 i4)
  else (
  fX8_happens_125 i1 c_tenants c_events c_gone c_event c_settled q_7 t0 c_left i2 (3 : Int32) v_8 i4)))
  else (
  fX8_happens_127 i1 c_tenants c_events c_gone c_event c_settled q_7 t0 c_left i2))))))
noncomputable def fX8_happens_74 (i1 : Int32) (c_tenants : Int32) (c_events : Int32) (c_gone : Int32) (c_event : Nat → Int32) (c_settled : Nat → Int32) (q_7 : Int32 → (Nat → Int32) → Int32 → (Option (Int32 × (Nat → Int32)))) (c_audit : Int32) (c_left : Nat → Int32) (i2 : Int32) (i3 : Int32) (i4 : Int32) : Option (Int32 × (Nat → Int32)) :=
  fX8_happens_79 i1 c_tenants c_events c_gone c_event c_settled q_7 c_audit c_left i2 i3 i4 (1 : Int32)
noncomputable def bX8_happens_7 (i1 : Int32) (c_tenants : Int32) (c_events : Int32) (c_gone : Int32) (c_event : Nat → Int32) (c_settled : Nat → Int32)  (self : Int32 → (Nat → Int32) → Int32 → (Option (Int32 × (Nat → Int32)))) (c_audit : Int32) (c_left : Nat → Int32) (i2 : Int32) : Option (Int32 × (Nat → Int32)) :=
  if c_events ≤ i2 then (
  some (c_audit, c_left))
  else (
  rdA 24 c_event (((3 : Int32) * i2) + (1 : Int32)) (fun v_1 =>
  if v_1 = i1 then (
  bd1 (fX8_isIn c_gone i2) (fun r_3 =>
  if r_3 = (0 : Int32) then (
  rdA 24 c_event ((3 : Int32) * i2) (fun v_4 =>
  rdA 24 c_event (((3 : Int32) * i2) + (2 : Int32)) (fun v_5 =>
  if c_audit = (0 : Int32) then (
  if v_4 = (2 : Int32) then (
  fX8_happens_74 i1 c_tenants c_events c_gone c_event c_settled self c_audit c_left i2 v_4 v_5)
  else (
  fX8_happens_79 i1 c_tenants c_events c_gone c_event c_settled self c_audit c_left i2 v_4 v_5 (0 : Int32)))
  else (
  fX8_happens_74 i1 c_tenants c_events c_gone c_event c_settled self c_audit c_left i2 v_4 v_5))))
  else (
  fX8_happens_127 i1 c_tenants c_events c_gone c_event c_settled self c_audit c_left i2)))
  else (
  fX8_happens_127 i1 c_tenants c_events c_gone c_event c_settled self c_audit c_left i2)))
noncomputable def fX8_happens_7 (i1 : Int32) (c_tenants : Int32) (c_events : Int32) (c_gone : Int32) (c_event : Nat → Int32) (c_settled : Nat → Int32)  (n : Nat) : Int32 → (Nat → Int32) → Int32 → (Option (Int32 × (Nat → Int32))) := lpN (fun _ _ _ => none) (bX8_happens_7 i1 c_tenants c_events c_gone c_event c_settled ) n
noncomputable def fX8_happens (i1 : Int32) (c_tenants : Int32) (c_events : Int32) (c_gone : Int32) (c_event : Nat → Int32) (c_settled : Nat → Int32) (c_audit : Int32) (c_left : Nat → Int32) : Option (Int32 × (Nat → Int32)) :=
  fX8_happens_7 i1 c_tenants c_events c_gone c_event c_settled jF (0 : Int32) c_left (0 : Int32)
noncomputable def fX8_pays_108 (i1 : Int32) (i2 : Int32) (c_tenant : Nat → Int32) (c_before : Nat → Int32)  (c_floor : Nat → Int32) (c_left : Nat → Int32) (c_settled : Nat → Int32) (t0 : Int32) (t1 : Int32) : Option ((Nat → Int32) × (Nat → Int32) × (Nat → Int32)) :=
  if t0 ≤ t1 then (
  some (c_floor, c_left, c_settled))
  else (
  wrI 8 c_settled i2 i1 (fun c_settled_11 =>
  wrI 8 c_floor i2 (-1 : Int32) (fun c_floor_12 =>
  some (c_floor_12, c_left, c_settled_11))))
noncomputable def fX8_pays_72 (i1 : Int32) (i2 : Int32) (c_tenant : Nat → Int32) (c_before : Nat → Int32)  (c_floor : Nat → Int32) (c_left : Nat → Int32) (c_settled : Nat → Int32) (i3 : Int32) (t0 : Int32) (t1 : Int32) (t2 : Int32) : Option ((Nat → Int32) × (Nat → Int32) × (Nat → Int32)) :=
  wrI 8 c_left t2 (t1 + t0) (fun c_left_6 =>
  rdA 8 c_left_6 i2 (fun v_7 =>
  bd1 (fX8_lesser v_7 (60 : Int32)) (fun r_8 =>
  wrI 8 c_left_6 i2 r_8 (fun c_left_9 =>
  rdA 8 c_left_9 i2 (fun v_10 =>
  if i3 = (3 : Int32) then (
  fX8_pays_108 i1 i2 c_tenant c_before c_floor c_left_9 c_settled (-6 : Int32) v_10)
  else (
  fX8_pays_108 i1 i2 c_tenant c_before c_floor c_left_9 c_settled (0 : Int32) v_10))))))
noncomputable def fX8_pays (i1 : Int32) (i2 : Int32) (c_tenant : Nat → Int32) (c_before : Nat → Int32) (c_floor : Nat → Int32) (c_left : Nat → Int32) (c_settled : Nat → Int32) : Option ((Nat → Int32) × (Nat → Int32) × (Nat → Int32)) :=
  rdA 24 c_tenant ((3 : Int32) * i2) (fun v_1 =>
  rdA 24 c_tenant (((3 : Int32) * i2) + (2 : Int32)) (fun v_2 =>
  rdA 8 c_before i2 (fun v_3 =>
  nmV (((v_3 / (2 : Int32)) + (1 : Int32))) (fun i5_4 =>
  rdA 8 c_left i2 (fun v_5 =>
  if v_1 = (2 : Int32) then (
  fX8_pays_72 i1 i2 c_tenant c_before c_floor c_left c_settled v_1 (v_2 / (2 : Int32)) v_5 i2)
  else (
  if v_1 = (1 : Int32) then (
  fX8_pays_72 i1 i2 c_tenant c_before c_floor c_left c_settled v_1 ((v_2 - i5_4) + (1 : Int32)) v_5 i2)
  else (
  fX8_pays_72 i1 i2 c_tenant c_before c_floor c_left c_settled v_1 (v_2 - i5_4) v_5 i2)))))))
noncomputable def fX8_third (i0 : Int32) : Option (Int32) :=
  if (0 : Int32) ≤ i0 then (
  some ((i0 / (3 : Int32))))
  else (
  some ((0 : Int32)))
noncomputable def fX8_wanted_33 (i1 : Int32) (c_audit : Int32) (c_left : Nat → Int32)  (t0 : Int32) (t1 : Int32) : Option (Int32) :=
  bd1 (fX8_lesser (t1 + t0) (12 : Int32)) (fun r_3 =>
  some (r_3))
noncomputable def fX8_wanted (i1 : Int32) (c_audit : Int32) (c_left : Nat → Int32) : Option (Int32) :=
  rdA 8 c_left i1 (fun v_1 =>
  if (0 : Int32) ≤ v_1 then (
  rdA 8 c_left i1 (fun v_2 =>
  if c_audit = (0 : Int32) then (
  fX8_wanted_33 i1 c_audit c_left (1 : Int32) (v_2 / (3 : Int32)))
  else (
  fX8_wanted_33 i1 c_audit c_left (0 : Int32) (v_2 / (3 : Int32)))))
  else (
  some ((0 : Int32))))
noncomputable def fX8_gets_175 (c_tenants : Int32) (c_room : Int32) (c_audit : Int32) (c_left : Nat → Int32) (c_settled : Nat → Int32) (q_25 : (Nat → Int32) → (Nat → Int32) → Int32 → Int32 → (Option ((Nat → Int32) × (Nat → Int32)))) (c_floor : Nat → Int32) (c_many : Nat → Int32) (i1 : Int32) (i2 : Int32) : Option ((Nat → Int32) × (Nat → Int32)) :=
  nmV (i2 + (1 : Int32)) (fun i2_1 =>
  q_25 c_floor c_many i1 i2_1)
noncomputable def fX8_gets_156 (c_tenants : Int32) (c_room : Int32) (c_audit : Int32) (c_left : Nat → Int32) (c_settled : Nat → Int32) (q_25 : (Nat → Int32) → (Nat → Int32) → Int32 → Int32 → (Option ((Nat → Int32) × (Nat → Int32)))) (c_floor : Nat → Int32) (c_many : Nat → Int32) (i1 : Int32) (i2 : Int32) (i3 : Int32) (i4 : Int32) : Option ((Nat → Int32) × (Nat → Int32)) :=
  rdA 13 c_many i4 (fun v_4 =>
  wrI 13 c_many i4 (v_4 + (1 : Int32)) (fun c_many_5 =>
  wrI 8 c_floor i3 i4 (fun c_floor_6 =>
  fX8_gets_175 c_tenants c_room c_audit c_left c_settled q_25 c_floor_6 c_many_5 i1 i2)))
noncomputable def bX8_gets_131 (c_tenants : Int32) (c_room : Int32) (c_audit : Int32) (c_left : Nat → Int32) (c_settled : Nat → Int32) (q_25 : (Nat → Int32) → (Nat → Int32) → Int32 → Int32 → (Option ((Nat → Int32) × (Nat → Int32)))) (self : (Nat → Int32) → (Nat → Int32) → Int32 → Int32 → Int32 → Int32 → (Option ((Nat → Int32) × (Nat → Int32)))) (c_floor : Nat → Int32) (c_many : Nat → Int32) (i1 : Int32) (i2 : Int32) (i3 : Int32) (i4 : Int32) : Option ((Nat → Int32) × (Nat → Int32)) :=
  if i4 ≤ (0 : Int32) then (
  fX8_gets_156 c_tenants c_room c_audit c_left c_settled q_25 c_floor c_many i1 i2 i3 i4)
  else (
  rdA 13 c_many i4 (fun v_7 =>
  if v_7 = c_room then (
  nmV (i4 + (-1 : Int32)) (fun i4_8 =>
  self c_floor c_many i1 i2 i3 i4_8))
  else (
  fX8_gets_156 c_tenants c_room c_audit c_left c_settled q_25 c_floor c_many i1 i2 i3 i4)))
noncomputable def fX8_gets_131 (c_tenants : Int32) (c_room : Int32) (c_audit : Int32) (c_left : Nat → Int32) (c_settled : Nat → Int32) (q_25 : (Nat → Int32) → (Nat → Int32) → Int32 → Int32 → (Option ((Nat → Int32) × (Nat → Int32)))) (n : Nat) : (Nat → Int32) → (Nat → Int32) → Int32 → Int32 → Int32 → Int32 → (Option ((Nat → Int32) × (Nat → Int32))) := lpN (fun _ _ _ _ _ _ => none) (bX8_gets_131 c_tenants c_room c_audit c_left c_settled q_25) n
noncomputable def fX8_gets_106 (c_tenants : Int32) (c_room : Int32) (c_audit : Int32) (c_left : Nat → Int32) (c_settled : Nat → Int32) (q_25 : (Nat → Int32) → (Nat → Int32) → Int32 → Int32 → (Option ((Nat → Int32) × (Nat → Int32)))) (q_38 : (Nat → Int32) → (Nat → Int32) → Int32 → Int32 → Int32 → Int32 → (Option ((Nat → Int32) × (Nat → Int32)))) (c_floor : Nat → Int32) (c_many : Nat → Int32) (i1 : Int32) (i2 : Int32) (i4 : Int32) (t0 : Int32) : Option ((Nat → Int32) × (Nat → Int32)) :=
  nmV (i4 + (1 : Int32)) (fun i4_10 =>
  q_38 c_floor c_many i1 i2 t0 i4_10)
noncomputable def fX8_gets_105 (c_tenants : Int32) (c_room : Int32) (c_audit : Int32) (c_left : Nat → Int32) (c_settled : Nat → Int32) (q_25 : (Nat → Int32) → (Nat → Int32) → Int32 → Int32 → (Option ((Nat → Int32) × (Nat → Int32)))) (q_38 : (Nat → Int32) → (Nat → Int32) → Int32 → Int32 → Int32 → Int32 → (Option ((Nat → Int32) × (Nat → Int32)))) (c_floor : Nat → Int32) (c_many : Nat → Int32) (i1 : Int32) (i2 : Int32) (i3 : Int32) (i4 : Int32) : Option ((Nat → Int32) × (Nat → Int32)) :=
  fX8_gets_106 c_tenants c_room c_audit c_left c_settled q_25 q_38 c_floor c_many i1 i2 i4 i3
noncomputable def fX8_gets_100 (c_tenants : Int32) (c_room : Int32) (c_audit : Int32) (c_left : Nat → Int32) (c_settled : Nat → Int32) (q_25 : (Nat → Int32) → (Nat → Int32) → Int32 → Int32 → (Option ((Nat → Int32) × (Nat → Int32)))) (q_38 : (Nat → Int32) → (Nat → Int32) → Int32 → Int32 → Int32 → Int32 → (Option ((Nat → Int32) × (Nat → Int32)))) (c_floor : Nat → Int32) (c_many : Nat → Int32) (i1 : Int32) (i2 : Int32) (i4 : Int32) : Option ((Nat → Int32) × (Nat → Int32)) :=
  fX8_gets_106 c_tenants c_room c_audit c_left c_settled q_25 q_38 c_floor c_many i1 i2 i4 i4
noncomputable def fX8_gets_72 (c_tenants : Int32) (c_room : Int32) (c_audit : Int32) (c_left : Nat → Int32) (c_settled : Nat → Int32) (q_25 : (Nat → Int32) → (Nat → Int32) → Int32 → Int32 → (Option ((Nat → Int32) × (Nat → Int32)))) (q_38 : (Nat → Int32) → (Nat → Int32) → Int32 → Int32 → Int32 → Int32 → (Option ((Nat → Int32) × (Nat → Int32)))) (c_floor : Nat → Int32) (c_many : Nat → Int32) (i1 : Int32) (i2 : Int32) (i3 : Int32) (i4 : Int32) (t0 : Int32) : Option ((Nat → Int32) × (Nat → Int32)) :=
  if t0 = (0 : Int32) then (
  fX8_gets_105 c_tenants c_room c_audit c_left c_settled q_25 q_38 c_floor c_many i1 i2 i3 i4)
  else (
  if i3 = (-1 : Int32) then (
  fX8_gets_100 c_tenants c_room c_audit c_left c_settled q_25 q_38 c_floor c_many i1 i2 i4)
  else (
  rdA 8 c_left i4 (fun v_11 =>
  rdA 8 c_left i3 (fun v_12 =>
  if v_11 ≤ v_12 then (
  fX8_gets_105 c_tenants c_room c_audit c_left c_settled q_25 q_38 c_floor c_many i1 i2 i3 i4)
  else (
  fX8_gets_100 c_tenants c_room c_audit c_left c_settled q_25 q_38 c_floor c_many i1 i2 i4)))))
noncomputable def fX8_gets_71 (c_tenants : Int32) (c_room : Int32) (c_audit : Int32) (c_left : Nat → Int32) (c_settled : Nat → Int32) (q_25 : (Nat → Int32) → (Nat → Int32) → Int32 → Int32 → (Option ((Nat → Int32) × (Nat → Int32)))) (q_38 : (Nat → Int32) → (Nat → Int32) → Int32 → Int32 → Int32 → Int32 → (Option ((Nat → Int32) × (Nat → Int32)))) (c_floor : Nat → Int32) (c_many : Nat → Int32) (i1 : Int32) (i2 : Int32) (i3 : Int32) (i4 : Int32) : Option ((Nat → Int32) × (Nat → Int32)) :=
  fX8_gets_72 c_tenants c_room c_audit c_left c_settled q_25 q_38 c_floor c_many i1 i2 i3 i4 (0 : Int32)
noncomputable def bX8_gets_38 (c_tenants : Int32) (c_room : Int32) (c_audit : Int32) (c_left : Nat → Int32) (c_settled : Nat → Int32) (q_25 : (Nat → Int32) → (Nat → Int32) → Int32 → Int32 → (Option ((Nat → Int32) × (Nat → Int32)))) (self : (Nat → Int32) → (Nat → Int32) → Int32 → Int32 → Int32 → Int32 → (Option ((Nat → Int32) × (Nat → Int32)))) (c_floor : Nat → Int32) (c_many : Nat → Int32) (i1 : Int32) (i2 : Int32) (i3 : Int32) (i4 : Int32) : Option ((Nat → Int32) × (Nat → Int32)) :=
  if c_tenants ≤ i4 then (
  if i3 = (-1 : Int32) then (
  fX8_gets_175 c_tenants c_room c_audit c_left c_settled q_25 c_floor c_many i1 i2)
  else (
  nmV ((i1 ||| ((1 : Int32) <<< (i3 &&& (31 : Int32))))) (fun i1_2 =>
  bd1 (fX8_wanted i3 c_audit c_left) (fun r_3 =>
  fX8_gets_131 c_tenants c_room c_audit c_left c_settled q_25 jF c_floor c_many i1_2 i2 i3 r_3))))
  else (
  rdA 8 c_settled i4 (fun v_9 =>
  if v_9 = (-1 : Int32) then (
  bd1 (fX8_isIn i1 i4) (fun r_13 =>
  if r_13 = (0 : Int32) then (
  fX8_gets_72 c_tenants c_room c_audit c_left c_settled q_25 self c_floor c_many i1 i2 i3 i4 (1 : Int32))
  else (
  fX8_gets_71 c_tenants c_room c_audit c_left c_settled q_25 self c_floor c_many i1 i2 i3 i4)))
  else (
  fX8_gets_71 c_tenants c_room c_audit c_left c_settled q_25 self c_floor c_many i1 i2 i3 i4)))
noncomputable def fX8_gets_38 (c_tenants : Int32) (c_room : Int32) (c_audit : Int32) (c_left : Nat → Int32) (c_settled : Nat → Int32) (q_25 : (Nat → Int32) → (Nat → Int32) → Int32 → Int32 → (Option ((Nat → Int32) × (Nat → Int32)))) (n : Nat) : (Nat → Int32) → (Nat → Int32) → Int32 → Int32 → Int32 → Int32 → (Option ((Nat → Int32) × (Nat → Int32))) := lpN (fun _ _ _ _ _ _ => none) (bX8_gets_38 c_tenants c_room c_audit c_left c_settled q_25) n
noncomputable def bX8_gets_25 (c_tenants : Int32) (c_room : Int32) (c_audit : Int32) (c_left : Nat → Int32) (c_settled : Nat → Int32)  (self : (Nat → Int32) → (Nat → Int32) → Int32 → Int32 → (Option ((Nat → Int32) × (Nat → Int32)))) (c_floor : Nat → Int32) (c_many : Nat → Int32) (i1 : Int32) (i2 : Int32) : Option ((Nat → Int32) × (Nat → Int32)) :=
  if c_tenants ≤ i2 then (
  some (c_floor, c_many))
  else (
  fX8_gets_38 c_tenants c_room c_audit c_left c_settled self jF c_floor c_many i1 i2 (-1 : Int32) (0 : Int32))
noncomputable def fX8_gets_25 (c_tenants : Int32) (c_room : Int32) (c_audit : Int32) (c_left : Nat → Int32) (c_settled : Nat → Int32)  (n : Nat) : (Nat → Int32) → (Nat → Int32) → Int32 → Int32 → (Option ((Nat → Int32) × (Nat → Int32))) := lpN (fun _ _ _ _ => none) (bX8_gets_25 c_tenants c_room c_audit c_left c_settled ) n
noncomputable def bX8_gets_2 (c_tenants : Int32) (c_room : Int32) (c_audit : Int32) (c_left : Nat → Int32) (c_settled : Nat → Int32)  (self : (Nat → Int32) → (Nat → Int32) → Int32 → (Option ((Nat → Int32) × (Nat → Int32)))) (c_floor : Nat → Int32) (c_many : Nat → Int32) (i1 : Int32) : Option ((Nat → Int32) × (Nat → Int32)) :=
  if (13 : Int32) ≤ i1 then (
  fX8_gets_25 c_tenants c_room c_audit c_left c_settled jF c_floor c_many (0 : Int32) (0 : Int32))
  else (
  wrI 13 c_many i1 (0 : Int32) (fun c_many_14 =>
  nmV (i1 + (1 : Int32)) (fun i1_15 =>
  self c_floor c_many_14 i1_15)))
noncomputable def fX8_gets_2 (c_tenants : Int32) (c_room : Int32) (c_audit : Int32) (c_left : Nat → Int32) (c_settled : Nat → Int32)  (n : Nat) : (Nat → Int32) → (Nat → Int32) → Int32 → (Option ((Nat → Int32) × (Nat → Int32))) := lpN (fun _ _ _ => none) (bX8_gets_2 c_tenants c_room c_audit c_left c_settled ) n
noncomputable def fX8_gets (c_tenants : Int32) (c_room : Int32) (c_audit : Int32) (c_left : Nat → Int32) (c_settled : Nat → Int32) (c_floor : Nat → Int32) (c_many : Nat → Int32) : Option ((Nat → Int32) × (Nat → Int32)) :=
  fX8_gets_2 c_tenants c_room c_audit c_left c_settled jF c_floor c_many (0 : Int32)
noncomputable def fX8_between_42 (i1 : Int32) (i2 : Int32) (c_tenants : Int32) (c_floor : Nat → Int32) (q_5 : Int32 → Int32 → Option (Int32)) (i4 : Int32) (t0 : Int32) (t1 : Int32) : Option (Int32) :=
  nmV ((t1 + t0)) (fun i3_2 =>
  nmV (i4 + (1 : Int32)) (fun i4_3 =>
  q_5 i3_2 i4_3))
noncomputable def fX8_between_41 (i1 : Int32) (i2 : Int32) (c_tenants : Int32) (c_floor : Nat → Int32) (q_5 : Int32 → Int32 → Option (Int32)) (i4 : Int32) (t0 : Int32) : Option (Int32) :=
  fX8_between_42 i1 i2 c_tenants c_floor q_5 i4 (0 : Int32) t0
noncomputable def bX8_between_5 (i1 : Int32) (i2 : Int32) (c_tenants : Int32) (c_floor : Nat → Int32)  (self : Int32 → Int32 → Option (Int32)) (i3 : Int32) (i4 : Int32) : Option (Int32) :=
  if c_tenants ≤ i4 then (
  some (i3))
  else (
  rdA 8 c_floor i4 (fun v_1 =>
  if v_1 ≤ i1 then (
  fX8_between_41 i1 i2 c_tenants c_floor self i4 i3)
  else (
  rdA 8 c_floor i4 (fun v_4 =>
  if i2 ≤ v_4 then (
  fX8_between_41 i1 i2 c_tenants c_floor self i4 i3)
  else (
  fX8_between_42 i1 i2 c_tenants c_floor self i4 (1 : Int32) i3)))))
noncomputable def fX8_between_5 (i1 : Int32) (i2 : Int32) (c_tenants : Int32) (c_floor : Nat → Int32)  (n : Nat) : Int32 → Int32 → Option (Int32) := lpN (fun _ _ => none) (bX8_between_5 i1 i2 c_tenants c_floor ) n
noncomputable def fX8_between (i1 : Int32) (i2 : Int32) (c_tenants : Int32) (c_floor : Nat → Int32) : Option (Int32) :=
  fX8_between_5 i1 i2 c_tenants c_floor jF (0 : Int32) (0 : Int32)
noncomputable def fX8_passes_227 (i1 : Int32) (c_tenants : Int32) (c_room : Int32) (c_events : Int32) (c_gone : Int32) (c_tenant : Nat → Int32) (c_event : Nat → Int32) (q_71 : jT11 → Int32 → Option (jT11)) (c_sim : jT11) (i2 : Int32) (t0 : Int32) (t1 : Int32) : Option (jT11) :=
  wrI 192 c_sim.2.2.2.2.2.2.2.2.2.2.2 t1 t0 (fun c_fellBy_19 =>
  nmV (i2 + (1 : Int32)) (fun i2_20 =>
  q_71 (c_sim.1, c_sim.2.1, c_sim.2.2.1, c_sim.2.2.2.1, c_sim.2.2.2.2.1, c_sim.2.2.2.2.2.1, c_sim.2.2.2.2.2.2.1, c_sim.2.2.2.2.2.2.2.1, c_sim.2.2.2.2.2.2.2.2.1, c_sim.2.2.2.2.2.2.2.2.2.1, c_sim.2.2.2.2.2.2.2.2.2.2.1, c_fellBy_19) i2_20))
noncomputable def fX8_passes_151 (i1 : Int32) (c_tenants : Int32) (c_room : Int32) (c_events : Int32) (c_gone : Int32) (c_tenant : Nat → Int32) (c_event : Nat → Int32) (q_71 : jT11 → Int32 → Option (jT11)) (c_sim : jT11) (i2 : Int32) (i3 : Int32) (t0 : Int32) (t1 : Int32) (t2 : Int32) : Option (jT11) :=
  wrI 8 c_sim.2.2.2.2.2.2.1 t2 (t1 + t0) (fun c_past_10 =>
  rdA 8 c_sim.2.1 i2 (fun v_11 =>
  rdA 8 c_sim.2.2.2.2.2.2.2.1 i2 (fun v_12 =>
  bd1 (fX8_greater v_11 v_12) (fun r_13 =>
  wrI 8 c_sim.2.2.2.2.2.2.2.1 i2 r_13 (fun c_highest_14 =>
  rdA 8 c_sim.2.1 i2 (fun v_15 =>
  wrI 192 c_sim.2.2.2.2.2.2.2.2.2.1 (((8 : Int32) * i1) + i2) v_15 (fun c_floorBy_16 =>
  rdA 8 c_sim.2.2.2.1 i2 (fun v_17 =>
  wrI 192 c_sim.2.2.2.2.2.2.2.2.2.2.1 (((8 : Int32) * i1) + i2) v_17 (fun c_leftBy_18 =>
  if i3 = (0 : Int32) then (
  fX8_passes_227 i1 c_tenants c_room c_events c_gone c_tenant c_event q_71 (c_sim.1, c_sim.2.1, c_sim.2.2.1, c_sim.2.2.2.1, c_sim.2.2.2.2.1, c_sim.2.2.2.2.2.1, c_past_10, c_highest_14, c_sim.2.2.2.2.2.2.2.2.1, c_floorBy_16, c_leftBy_18, c_sim.2.2.2.2.2.2.2.2.2.2.2) i2 (0 : Int32) (((8 : Int32) * i1) + i2))
  else (
  fX8_passes_227 i1 c_tenants c_room c_events c_gone c_tenant c_event q_71 (c_sim.1, c_sim.2.1, c_sim.2.2.1, c_sim.2.2.2.1, c_sim.2.2.2.2.1, c_sim.2.2.2.2.2.1, c_past_10, c_highest_14, c_sim.2.2.2.2.2.2.2.2.1, c_floorBy_16, c_leftBy_18, c_sim.2.2.2.2.2.2.2.2.2.2.2) i2 (1 : Int32) (((8 : Int32) * i1) + i2)))))))))))
noncomputable def fX8_passes_118 (i1 : Int32) (c_tenants : Int32) (c_room : Int32) (c_events : Int32) (c_gone : Int32) (c_tenant : Nat → Int32) (c_event : Nat → Int32) (q_71 : jT11 → Int32 → Option (jT11)) (c_sim : jT11) (i2 : Int32) (i3 : Int32) (t0 : Int32) (t1 : Int32) (t2 : Int32) : Option (jT11) :=
  wrI 8 c_sim.2.2.2.2.2.1 t2 (t1 + t0) (fun c_fell_8 =>
  rdA 8 c_sim.2.2.2.2.2.2.1 i2 (fun v_9 =>
  if i3 = (0 : Int32) then (
  fX8_passes_151 i1 c_tenants c_room c_events c_gone c_tenant c_event q_71 (c_sim.1, c_sim.2.1, c_sim.2.2.1, c_sim.2.2.2.1, c_sim.2.2.2.2.1, c_fell_8, c_sim.2.2.2.2.2.2.1, c_sim.2.2.2.2.2.2.2.1, c_sim.2.2.2.2.2.2.2.2.1, c_sim.2.2.2.2.2.2.2.2.2.1, c_sim.2.2.2.2.2.2.2.2.2.2.1, c_sim.2.2.2.2.2.2.2.2.2.2.2) i2 i3 (0 : Int32) v_9 i2)
  else (
  rdA 8 c_sim.2.1 i2 (fun v_21 =>
  rdA 8 c_sim.2.2.1 i2 (fun v_22 =>
  bd1 (fX8_between v_21 v_22 c_tenants c_sim.2.1) (fun r_23 =>
  fX8_passes_151 i1 c_tenants c_room c_events c_gone c_tenant c_event q_71 (c_sim.1, c_sim.2.1, c_sim.2.2.1, c_sim.2.2.2.1, c_sim.2.2.2.2.1, c_fell_8, c_sim.2.2.2.2.2.2.1, c_sim.2.2.2.2.2.2.2.1, c_sim.2.2.2.2.2.2.2.2.1, c_sim.2.2.2.2.2.2.2.2.2.1, c_sim.2.2.2.2.2.2.2.2.2.2.1, c_sim.2.2.2.2.2.2.2.2.2.2.2) i2 i3 r_23 v_9 i2))))))
noncomputable def fX8_passes_101 (i1 : Int32) (c_tenants : Int32) (c_room : Int32) (c_events : Int32) (c_gone : Int32) (c_tenant : Nat → Int32) (c_event : Nat → Int32) (q_71 : jT11 → Int32 → Option (jT11)) (c_sim : jT11) (i2 : Int32) (t0 : Int32) : Option (jT11) :=
  rdA 8 c_sim.2.2.2.2.2.1 i2 (fun v_7 =>
  if t0 = (0 : Int32) then (
  fX8_passes_118 i1 c_tenants c_room c_events c_gone c_tenant c_event q_71 c_sim i2 t0 (0 : Int32) v_7 i2)
  else (
  fX8_passes_118 i1 c_tenants c_room c_events c_gone c_tenant c_event q_71 c_sim i2 t0 (1 : Int32) v_7 i2))
noncomputable def bX8_passes_71 (i1 : Int32) (c_tenants : Int32) (c_room : Int32) (c_events : Int32) (c_gone : Int32) (c_tenant : Nat → Int32) (c_event : Nat → Int32)  (self : jT11 → Int32 → Option (jT11)) (c_sim : jT11) (i2 : Int32) : Option (jT11) :=
  if c_tenants ≤ i2 then (
  some (c_sim))
  else (
  rdA 8 c_sim.2.1 i2 (fun v_5 =>
  rdA 8 c_sim.2.2.1 i2 (fun v_6 =>
  if (v_6 - (2 : Int32)) < v_5 then (
  fX8_passes_101 i1 c_tenants c_room c_events c_gone c_tenant c_event self c_sim i2 (0 : Int32))
  else (
  fX8_passes_101 i1 c_tenants c_room c_events c_gone c_tenant c_event self c_sim i2 (1 : Int32)))))
noncomputable def fX8_passes_71 (i1 : Int32) (c_tenants : Int32) (c_room : Int32) (c_events : Int32) (c_gone : Int32) (c_tenant : Nat → Int32) (c_event : Nat → Int32)  (n : Nat) : jT11 → Int32 → Option (jT11) := lpN (fun _ _ => none) (bX8_passes_71 i1 c_tenants c_room c_events c_gone c_tenant c_event ) n
noncomputable def fX8_passes_59 (i1 : Int32) (c_tenants : Int32) (c_room : Int32) (c_events : Int32) (c_gone : Int32) (c_tenant : Nat → Int32) (c_event : Nat → Int32) (q_35 : jT11 → Int32 → Option (jT11)) (c_sim : jT11) (i2 : Int32) : Option (jT11) :=
  nmV (i2 + (1 : Int32)) (fun i2_25 =>
  q_35 c_sim i2_25)
noncomputable def bX8_passes_35 (i1 : Int32) (c_tenants : Int32) (c_room : Int32) (c_events : Int32) (c_gone : Int32) (c_tenant : Nat → Int32) (c_event : Nat → Int32)  (self : jT11 → Int32 → Option (jT11)) (c_sim : jT11) (i2 : Int32) : Option (jT11) :=
  if c_tenants ≤ i2 then (
  bd2 (fX8_gets c_tenants c_room c_sim.1 c_sim.2.2.2.1 c_sim.2.2.2.2.1 c_sim.2.1 c_sim.2.2.2.2.2.2.2.2.1) (fun c_floor_3 c_many_4 =>
  fX8_passes_71 i1 c_tenants c_room c_events c_gone c_tenant c_event jF (c_sim.1, c_floor_3, c_sim.2.2.1, c_sim.2.2.2.1, c_sim.2.2.2.2.1, c_sim.2.2.2.2.2.1, c_sim.2.2.2.2.2.2.1, c_sim.2.2.2.2.2.2.2.1, c_many_4, c_sim.2.2.2.2.2.2.2.2.2.1, c_sim.2.2.2.2.2.2.2.2.2.2.1, c_sim.2.2.2.2.2.2.2.2.2.2.2) (0 : Int32)))
  else (
  rdA 8 c_sim.2.2.2.2.1 i2 (fun v_24 =>
  if v_24 = (-1 : Int32) then (
  bd3 (fX8_pays i1 i2 c_tenant c_sim.2.2.1 c_sim.2.1 c_sim.2.2.2.1 c_sim.2.2.2.2.1) (fun c_floor_26 c_left_27 c_settled_28 =>
  fX8_passes_59 i1 c_tenants c_room c_events c_gone c_tenant c_event self (c_sim.1, c_floor_26, c_sim.2.2.1, c_left_27, c_settled_28, c_sim.2.2.2.2.2.1, c_sim.2.2.2.2.2.2.1, c_sim.2.2.2.2.2.2.2.1, c_sim.2.2.2.2.2.2.2.2.1, c_sim.2.2.2.2.2.2.2.2.2.1, c_sim.2.2.2.2.2.2.2.2.2.2.1, c_sim.2.2.2.2.2.2.2.2.2.2.2) i2))
  else (
  fX8_passes_59 i1 c_tenants c_room c_events c_gone c_tenant c_event self c_sim i2)))
noncomputable def fX8_passes_35 (i1 : Int32) (c_tenants : Int32) (c_room : Int32) (c_events : Int32) (c_gone : Int32) (c_tenant : Nat → Int32) (c_event : Nat → Int32)  (n : Nat) : jT11 → Int32 → Option (jT11) := lpN (fun _ _ => none) (bX8_passes_35 i1 c_tenants c_room c_events c_gone c_tenant c_event ) n
noncomputable def bX8_passes_2 (i1 : Int32) (c_tenants : Int32) (c_room : Int32) (c_events : Int32) (c_gone : Int32) (c_tenant : Nat → Int32) (c_event : Nat → Int32)  (self : jT11 → Int32 → Option (jT11)) (c_sim : jT11) (i2 : Int32) : Option (jT11) :=
  if c_tenants ≤ i2 then (
  bd2 (fX8_happens i1 c_tenants c_events c_gone c_event c_sim.2.2.2.2.1 c_sim.1 c_sim.2.2.2.1) (fun c_audit_1 c_left_2 =>
  fX8_passes_35 i1 c_tenants c_room c_events c_gone c_tenant c_event jF (c_audit_1, c_sim.2.1, c_sim.2.2.1, c_left_2, c_sim.2.2.2.2.1, c_sim.2.2.2.2.2.1, c_sim.2.2.2.2.2.2.1, c_sim.2.2.2.2.2.2.2.1, c_sim.2.2.2.2.2.2.2.2.1, c_sim.2.2.2.2.2.2.2.2.2.1, c_sim.2.2.2.2.2.2.2.2.2.2.1, c_sim.2.2.2.2.2.2.2.2.2.2.2) (0 : Int32)))
  else (
  rdA 8 c_sim.2.1 i2 (fun v_29 =>
  wrI 8 c_sim.2.2.1 i2 v_29 (fun c_before_30 =>
  nmV (i2 + (1 : Int32)) (fun i2_31 =>
  self (c_sim.1, c_sim.2.1, c_before_30, c_sim.2.2.2.1, c_sim.2.2.2.2.1, c_sim.2.2.2.2.2.1, c_sim.2.2.2.2.2.2.1, c_sim.2.2.2.2.2.2.2.1, c_sim.2.2.2.2.2.2.2.2.1, c_sim.2.2.2.2.2.2.2.2.2.1, c_sim.2.2.2.2.2.2.2.2.2.2.1, c_sim.2.2.2.2.2.2.2.2.2.2.2) i2_31))))
noncomputable def fX8_passes_2 (i1 : Int32) (c_tenants : Int32) (c_room : Int32) (c_events : Int32) (c_gone : Int32) (c_tenant : Nat → Int32) (c_event : Nat → Int32)  (n : Nat) : jT11 → Int32 → Option (jT11) := lpN (fun _ _ => none) (bX8_passes_2 i1 c_tenants c_room c_events c_gone c_tenant c_event ) n
noncomputable def fX8_passes (i1 : Int32) (c_tenants : Int32) (c_room : Int32) (c_events : Int32) (c_gone : Int32) (c_tenant : Nat → Int32) (c_event : Nat → Int32) (c_sim : jT11) : Option (jT11) :=
  fX8_passes_2 i1 c_tenants c_room c_events c_gone c_tenant c_event jF c_sim (0 : Int32)
noncomputable def bX8_lives_71 (c_tenants : Int32) (c_room : Int32) (c_events : Int32) (c_gone : Int32) (c_tenant : Nat → Int32) (c_event : Nat → Int32)  (self : jT11 → Int32 → Option (jT11)) (c_sim : jT11) (i1 : Int32) : Option (jT11) :=
  if (24 : Int32) ≤ i1 then (
  some (c_sim))
  else (
  bd1 (fX8_passes i1 c_tenants c_room c_events c_gone c_tenant c_event c_sim) (fun c_sim_1 =>
  nmV (i1 + (1 : Int32)) (fun i1_2 =>
  self c_sim_1 i1_2)))
noncomputable def fX8_lives_71 (c_tenants : Int32) (c_room : Int32) (c_events : Int32) (c_gone : Int32) (c_tenant : Nat → Int32) (c_event : Nat → Int32)  (n : Nat) : jT11 → Int32 → Option (jT11) := lpN (fun _ _ => none) (bX8_lives_71 c_tenants c_room c_events c_gone c_tenant c_event ) n
noncomputable def bX8_lives_2 (c_tenants : Int32) (c_room : Int32) (c_events : Int32) (c_gone : Int32) (c_tenant : Nat → Int32) (c_event : Nat → Int32)  (self : jT11 → Int32 → Option (jT11)) (c_sim : jT11) (i1 : Int32) : Option (jT11) :=
  if c_tenants ≤ i1 then (
  fX8_lives_71 c_tenants c_room c_events c_gone c_tenant c_event jF c_sim (0 : Int32))
  else (
  wrI 8 c_sim.2.1 i1 (0 : Int32) (fun c_floor_3 =>
  rdA 24 c_tenant (((3 : Int32) * i1) + (1 : Int32)) (fun v_4 =>
  wrI 8 c_sim.2.2.2.1 i1 ((3 : Int32) * v_4) (fun c_left_5 =>
  wrI 8 c_sim.2.2.2.2.1 i1 (-1 : Int32) (fun c_settled_6 =>
  wrI 8 c_sim.2.2.2.2.2.1 i1 (0 : Int32) (fun c_fell_7 =>
  wrI 8 c_sim.2.2.2.2.2.2.1 i1 (0 : Int32) (fun c_past_8 =>
  wrI 8 c_sim.2.2.2.2.2.2.2.1 i1 (-1 : Int32) (fun c_highest_9 =>
  nmV (i1 + (1 : Int32)) (fun i1_10 =>
  self (c_sim.1, c_floor_3, c_sim.2.2.1, c_left_5, c_settled_6, c_fell_7, c_past_8, c_highest_9, c_sim.2.2.2.2.2.2.2.2.1, c_sim.2.2.2.2.2.2.2.2.2.1, c_sim.2.2.2.2.2.2.2.2.2.2.1, c_sim.2.2.2.2.2.2.2.2.2.2.2) i1_10)))))))))
noncomputable def fX8_lives_2 (c_tenants : Int32) (c_room : Int32) (c_events : Int32) (c_gone : Int32) (c_tenant : Nat → Int32) (c_event : Nat → Int32)  (n : Nat) : jT11 → Int32 → Option (jT11) := lpN (fun _ _ => none) (bX8_lives_2 c_tenants c_room c_events c_gone c_tenant c_event ) n
noncomputable def fX8_lives (c_tenants : Int32) (c_room : Int32) (c_events : Int32) (c_gone : Int32) (c_tenant : Nat → Int32) (c_event : Nat → Int32) (c_sim : jT11) : Option (jT11) :=
  fX8_lives_2 c_tenants c_room c_events c_gone c_tenant c_event jF c_sim (0 : Int32)
noncomputable def fX8_find (c_typed : Int32) (c_room : Int32) (c_events : Int32) (c_gone : Int32) (c_bytes : Nat → Int32) (c_event : Nat → Int32) (c_tenants : Int32) (c_sim : jT11) (c_tenant : Nat → Int32) : Option (Int32 × jT11 × (Nat → Int32)) :=
  bd3 (fX8_reads c_typed c_bytes c_tenants c_tenant) (fun r_1 c_tenants_2 c_tenant_3 =>
  bd1 (fX8_lives c_tenants_2 c_room c_events c_gone c_tenant_3 c_event c_sim) (fun c_sim_4 =>
  some (c_tenants_2, c_sim_4, c_tenant_3)))
noncomputable def fX8_owes (i1 : Int32) (c_floorBy : Nat → Int32) (c_leftBy : Nat → Int32) : Option (Int32) :=
  rdA 192 c_floorBy i1 (fun v_1 =>
  rdA 192 c_leftBy i1 (fun v_2 =>
  bd1 (fX8_third v_2) (fun r_3 =>
  if v_1 ≤ r_3 then (
  some ((0 : Int32)))
  else (
  some ((1 : Int32))))))
noncomputable def fX8_atBy (i1 : Int32) (i2 : Int32) (i3 : Int32) (c_floorBy : Nat → Int32) (c_leftBy : Nat → Int32) (c_fellBy : Nat → Int32) : Option (Int32) :=
  nmV ((((8 : Int32) * i1) + i2)) (fun i4_1 =>
  if i3 = (0 : Int32) then (
  rdA 192 c_floorBy i4_1 (fun v_5 =>
  some (v_5)))
  else (
  if i3 = (1 : Int32) then (
  rdA 192 c_leftBy i4_1 (fun v_4 =>
  some (v_4)))
  else (
  if i3 = (2 : Int32) then (
  bd1 (fX8_owes i4_1 c_floorBy c_leftBy) (fun r_3 =>
  some (r_3)))
  else (
  rdA 192 c_fellBy i4_1 (fun v_2 =>
  some (v_2))))))
noncomputable def fX8_at (i1 : Int32) (i2 : Int32) (i3 : Int32) (c_typed : Int32) (c_room : Int32) (c_events : Int32) (c_gone : Int32) (c_bytes : Nat → Int32) (c_event : Nat → Int32) (c_tenants : Int32) (c_sim : jT11) (c_tenant : Nat → Int32) : Option (Int32 × Int32 × jT11 × (Nat → Int32)) :=
  bd3 (fX8_find c_typed c_room c_events c_gone c_bytes c_event c_tenants c_sim c_tenant) (fun c_tenants_1 c_sim_2 c_tenant_3 =>
  bd1 (fX8_isMonth i1) (fun r_4 =>
  if r_4 = (0 : Int32) then (
  some ((-2147483648 : Int32), c_tenants_1, c_sim_2, c_tenant_3))
  else (
  bd1 (fX8_isTenant i2 c_tenants_1) (fun r_5 =>
  if r_5 = (0 : Int32) then (
  some ((-2147483648 : Int32), c_tenants_1, c_sim_2, c_tenant_3))
  else (
  bd1 (fX8_in (Int32.toInt64 i3) (0 : Int64) (3 : Int64)) (fun r_6 =>
  if r_6 = (0 : Int32) then (
  some ((-2147483648 : Int32), c_tenants_1, c_sim_2, c_tenant_3))
  else (
  bd1 (fX8_atBy i1 i2 i3 c_sim_2.2.2.2.2.2.2.2.2.2.1 c_sim_2.2.2.2.2.2.2.2.2.2.2.1 c_sim_2.2.2.2.2.2.2.2.2.2.2.2) (fun r_7 =>
  some (r_7, c_tenants_1, c_sim_2, c_tenant_3)))))))))
noncomputable def fX8_liveBy_39 (i1 : Int32) (i2 : Int32) (c_tenants : Int32) (c_floorBy : Nat → Int32) (q_5 : Int32 → Int32 → Option (Int32)) (i4 : Int32) (t0 : Int32) (t1 : Int32) : Option (Int32) :=
  nmV ((t1 ||| t0)) (fun i3_2 =>
  nmV (i4 + (1 : Int32)) (fun i4_3 =>
  q_5 i3_2 i4_3))
noncomputable def bX8_liveBy_5 (i1 : Int32) (i2 : Int32) (c_tenants : Int32) (c_floorBy : Nat → Int32)  (self : Int32 → Int32 → Option (Int32)) (i3 : Int32) (i4 : Int32) : Option (Int32) :=
  if c_tenants ≤ i4 then (
  some (i3))
  else (
  rdA 192 c_floorBy (((8 : Int32) * i1) + i4) (fun v_1 =>
  if v_1 = i2 then (
  fX8_liveBy_39 i1 i2 c_tenants c_floorBy self i4 ((1 : Int32) <<< (i4 &&& (31 : Int32))) i3)
  else (
  fX8_liveBy_39 i1 i2 c_tenants c_floorBy self i4 (0 : Int32) i3)))
noncomputable def fX8_liveBy_5 (i1 : Int32) (i2 : Int32) (c_tenants : Int32) (c_floorBy : Nat → Int32)  (n : Nat) : Int32 → Int32 → Option (Int32) := lpN (fun _ _ => none) (bX8_liveBy_5 i1 i2 c_tenants c_floorBy ) n
noncomputable def fX8_liveBy (i1 : Int32) (i2 : Int32) (c_tenants : Int32) (c_floorBy : Nat → Int32) : Option (Int32) :=
  fX8_liveBy_5 i1 i2 c_tenants c_floorBy jF (0 : Int32) (0 : Int32)
noncomputable def fX8_live (i1 : Int32) (i2 : Int32) (c_typed : Int32) (c_room : Int32) (c_events : Int32) (c_gone : Int32) (c_bytes : Nat → Int32) (c_event : Nat → Int32) (c_tenants : Int32) (c_sim : jT11) (c_tenant : Nat → Int32) : Option (Int32 × Int32 × jT11 × (Nat → Int32)) :=
  bd3 (fX8_find c_typed c_room c_events c_gone c_bytes c_event c_tenants c_sim c_tenant) (fun c_tenants_1 c_sim_2 c_tenant_3 =>
  bd1 (fX8_isMonth i1) (fun r_4 =>
  if r_4 = (0 : Int32) then (
  some ((-2 : Int32), c_tenants_1, c_sim_2, c_tenant_3))
  else (
  bd1 (fX8_in (Int32.toInt64 i2) (0 : Int64) (12 : Int64)) (fun r_5 =>
  if r_5 = (0 : Int32) then (
  some ((-2 : Int32), c_tenants_1, c_sim_2, c_tenant_3))
  else (
  bd1 (fX8_liveBy i1 i2 c_tenants_1 c_sim_2.2.2.2.2.2.2.2.2.2.1) (fun r_6 =>
  some (r_6, c_tenants_1, c_sim_2, c_tenant_3)))))))
noncomputable def fX8_liftBy_75 (i1 : Int32) (c_tenants : Int32) (c_floorBy : Nat → Int32) (c_leftBy : Nat → Int32) (q_7 : Int32 → Int32 → Int32 → Option (Int32)) (i2 : Int32) (i4 : Int32) (t0 : Int32) (t1 : Int32) : Option (Int32) :=
  nmV ((t1 ||| t0)) (fun i3_5 =>
  nmV (i4 + (1 : Int32)) (fun i4_6 =>
  q_7 i2 i3_5 i4_6))
noncomputable def fX8_liftBy_49 (i1 : Int32) (c_tenants : Int32) (c_floorBy : Nat → Int32) (c_leftBy : Nat → Int32) (q_7 : Int32 → Int32 → Int32 → Option (Int32)) (i3 : Int32) (i4 : Int32) (i5 : Int32) (t0 : Int32) (t1 : Int32) : Option (Int32) :=
  nmV ((t1 ||| t0)) (fun i2_3 =>
  bd1 (fX8_owes i5 c_floorBy c_leftBy) (fun r_4 =>
  if r_4 = (1 : Int32) then (
  rdA 192 c_floorBy i5 (fun v_7 =>
  fX8_liftBy_75 i1 c_tenants c_floorBy c_leftBy q_7 i2_3 i4 ((1 : Int32) <<< (v_7 &&& (31 : Int32))) i3))
  else (
  fX8_liftBy_75 i1 c_tenants c_floorBy c_leftBy q_7 i2_3 i4 (0 : Int32) i3)))
noncomputable def bX8_liftBy_7 (i1 : Int32) (c_tenants : Int32) (c_floorBy : Nat → Int32) (c_leftBy : Nat → Int32)  (self : Int32 → Int32 → Int32 → Option (Int32)) (i2 : Int32) (i3 : Int32) (i4 : Int32) : Option (Int32) :=
  if c_tenants ≤ i4 then (
  some ((i2 &&& (i3 ^^^ (-1 : Int32)))))
  else (
  nmV ((((8 : Int32) * i1) + i4)) (fun i5_1 =>
  rdA 192 c_floorBy i5_1 (fun v_2 =>
  if v_2 ≤ (0 : Int32) then (
  fX8_liftBy_49 i1 c_tenants c_floorBy c_leftBy self i3 i4 i5_1 (0 : Int32) i2)
  else (
  rdA 192 c_floorBy i5_1 (fun v_8 =>
  fX8_liftBy_49 i1 c_tenants c_floorBy c_leftBy self i3 i4 i5_1 ((1 : Int32) <<< (v_8 &&& (31 : Int32))) i2)))))
noncomputable def fX8_liftBy_7 (i1 : Int32) (c_tenants : Int32) (c_floorBy : Nat → Int32) (c_leftBy : Nat → Int32)  (n : Nat) : Int32 → Int32 → Int32 → Option (Int32) := lpN (fun _ _ _ => none) (bX8_liftBy_7 i1 c_tenants c_floorBy c_leftBy ) n
noncomputable def fX8_liftBy (i1 : Int32) (c_tenants : Int32) (c_floorBy : Nat → Int32) (c_leftBy : Nat → Int32) : Option (Int32) :=
  fX8_liftBy_7 i1 c_tenants c_floorBy c_leftBy jF (0 : Int32) (0 : Int32) (0 : Int32)
noncomputable def fX8_lift (i1 : Int32) (c_typed : Int32) (c_room : Int32) (c_events : Int32) (c_gone : Int32) (c_bytes : Nat → Int32) (c_event : Nat → Int32) (c_tenants : Int32) (c_sim : jT11) (c_tenant : Nat → Int32) : Option (Int32 × Int32 × jT11 × (Nat → Int32)) :=
  bd3 (fX8_find c_typed c_room c_events c_gone c_bytes c_event c_tenants c_sim c_tenant) (fun c_tenants_1 c_sim_2 c_tenant_3 =>
  bd1 (fX8_isMonth i1) (fun r_4 =>
  if r_4 = (0 : Int32) then (
  some ((-2 : Int32), c_tenants_1, c_sim_2, c_tenant_3))
  else (
  bd1 (fX8_liftBy i1 c_tenants_1 c_sim_2.2.2.2.2.2.2.2.2.2.1 c_sim_2.2.2.2.2.2.2.2.2.2.2.1) (fun r_5 =>
  some (r_5, c_tenants_1, c_sim_2, c_tenant_3)))))
noncomputable def fX8_endsBy (i1 : Int32) (i2 : Int32) (c_settled : Nat → Int32) (c_fell : Nat → Int32) (c_past : Nat → Int32) (c_highest : Nat → Int32) : Option (Int32) :=
  if i2 = (0 : Int32) then (
  rdA 8 c_settled i1 (fun v_4 =>
  some (v_4)))
  else (
  if i2 = (1 : Int32) then (
  rdA 8 c_fell i1 (fun v_3 =>
  some (v_3)))
  else (
  if i2 = (2 : Int32) then (
  rdA 8 c_past i1 (fun v_2 =>
  some (v_2)))
  else (
  rdA 8 c_highest i1 (fun v_1 =>
  some (v_1)))))
noncomputable def fX8_ends (i1 : Int32) (i2 : Int32) (c_typed : Int32) (c_room : Int32) (c_events : Int32) (c_gone : Int32) (c_bytes : Nat → Int32) (c_event : Nat → Int32) (c_tenants : Int32) (c_sim : jT11) (c_tenant : Nat → Int32) : Option (Int32 × Int32 × jT11 × (Nat → Int32)) :=
  bd3 (fX8_find c_typed c_room c_events c_gone c_bytes c_event c_tenants c_sim c_tenant) (fun c_tenants_1 c_sim_2 c_tenant_3 =>
  bd1 (fX8_isTenant i1 c_tenants_1) (fun r_4 =>
  if r_4 = (0 : Int32) then (
  some ((-2147483648 : Int32), c_tenants_1, c_sim_2, c_tenant_3))
  else (
  bd1 (fX8_in (Int32.toInt64 i2) (0 : Int64) (3 : Int64)) (fun r_5 =>
  if r_5 = (0 : Int32) then (
  some ((-2147483648 : Int32), c_tenants_1, c_sim_2, c_tenant_3))
  else (
  bd1 (fX8_endsBy i1 i2 c_sim_2.2.2.2.2.1 c_sim_2.2.2.2.2.2.1 c_sim_2.2.2.2.2.2.2.1 c_sim_2.2.2.2.2.2.2.2.1) (fun r_6 =>
  some (r_6, c_tenants_1, c_sim_2, c_tenant_3)))))))
noncomputable def fX8_manySettled_28 (c_tenants : Int32) (c_settled : Nat → Int32) (q_4 : Int32 → Int32 → Option (Int32)) (i2 : Int32) (t0 : Int32) (t1 : Int32) : Option (Int32) :=
  nmV ((t1 + t0)) (fun i1_2 =>
  nmV (i2 + (1 : Int32)) (fun i2_3 =>
  q_4 i1_2 i2_3))
noncomputable def bX8_manySettled_4 (c_tenants : Int32) (c_settled : Nat → Int32)  (self : Int32 → Int32 → Option (Int32)) (i1 : Int32) (i2 : Int32) : Option (Int32) :=
  if c_tenants ≤ i2 then (
  some (i1))
  else (
  rdA 8 c_settled i2 (fun v_1 =>
  if v_1 = (-1 : Int32) then (
  fX8_manySettled_28 c_tenants c_settled self i2 (0 : Int32) i1)
  else (
  fX8_manySettled_28 c_tenants c_settled self i2 (1 : Int32) i1)))
noncomputable def fX8_manySettled_4 (c_tenants : Int32) (c_settled : Nat → Int32)  (n : Nat) : Int32 → Int32 → Option (Int32) := lpN (fun _ _ => none) (bX8_manySettled_4 c_tenants c_settled ) n
noncomputable def fX8_manySettled (c_tenants : Int32) (c_settled : Nat → Int32) : Option (Int32) :=
  fX8_manySettled_4 c_tenants c_settled jF (0 : Int32) (0 : Int32)
noncomputable def bX8_allFell_4 (c_tenants : Int32) (c_fell : Nat → Int32)  (self : Int32 → Int32 → Option (Int32)) (i1 : Int32) (i2 : Int32) : Option (Int32) :=
  if c_tenants ≤ i2 then (
  some (i1))
  else (
  rdA 8 c_fell i2 (fun v_1 =>
  nmV ((i1 + v_1)) (fun i1_2 =>
  nmV (i2 + (1 : Int32)) (fun i2_3 =>
  self i1_2 i2_3))))
noncomputable def fX8_allFell_4 (c_tenants : Int32) (c_fell : Nat → Int32)  (n : Nat) : Int32 → Int32 → Option (Int32) := lpN (fun _ _ => none) (bX8_allFell_4 c_tenants c_fell ) n
noncomputable def fX8_allFell (c_tenants : Int32) (c_fell : Nat → Int32) : Option (Int32) :=
  fX8_allFell_4 c_tenants c_fell jF (0 : Int32) (0 : Int32)
noncomputable def bX8_allPast_4 (c_tenants : Int32) (c_past : Nat → Int32)  (self : Int32 → Int32 → Option (Int32)) (i1 : Int32) (i2 : Int32) : Option (Int32) :=
  if c_tenants ≤ i2 then (
  some (i1))
  else (
  rdA 8 c_past i2 (fun v_1 =>
  nmV ((i1 + v_1)) (fun i1_2 =>
  nmV (i2 + (1 : Int32)) (fun i2_3 =>
  self i1_2 i2_3))))
noncomputable def fX8_allPast_4 (c_tenants : Int32) (c_past : Nat → Int32)  (n : Nat) : Int32 → Int32 → Option (Int32) := lpN (fun _ _ => none) (bX8_allPast_4 c_tenants c_past ) n
noncomputable def fX8_allPast (c_tenants : Int32) (c_past : Nat → Int32) : Option (Int32) :=
  fX8_allPast_4 c_tenants c_past jF (0 : Int32) (0 : Int32)
noncomputable def bX8_allOwed_12 (c_tenants : Int32) (c_floorBy : Nat → Int32) (c_leftBy : Nat → Int32) (q_4 : Int32 → Int32 → Option (Int32)) (self : Int32 → Int32 → Int32 → Option (Int32)) (i1 : Int32) (i2 : Int32) (i3 : Int32) : Option (Int32) :=
  if c_tenants ≤ i3 then (
  nmV (i2 + (1 : Int32)) (fun i2_1 =>
  q_4 i1 i2_1))
  else (
  bd1 (fX8_owes (((8 : Int32) * i2) + i3) c_floorBy c_leftBy) (fun r_2 =>
  nmV ((i1 + r_2)) (fun i1_3 =>
  nmV (i3 + (1 : Int32)) (fun i3_4 =>
  self i1_3 i2 i3_4))))
noncomputable def fX8_allOwed_12 (c_tenants : Int32) (c_floorBy : Nat → Int32) (c_leftBy : Nat → Int32) (q_4 : Int32 → Int32 → Option (Int32)) (n : Nat) : Int32 → Int32 → Int32 → Option (Int32) := lpN (fun _ _ _ => none) (bX8_allOwed_12 c_tenants c_floorBy c_leftBy q_4) n
noncomputable def bX8_allOwed_4 (c_tenants : Int32) (c_floorBy : Nat → Int32) (c_leftBy : Nat → Int32)  (self : Int32 → Int32 → Option (Int32)) (i1 : Int32) (i2 : Int32) : Option (Int32) :=
  if (24 : Int32) ≤ i2 then (
  some (i1))
  else (
  fX8_allOwed_12 c_tenants c_floorBy c_leftBy self jF i1 i2 (0 : Int32))
noncomputable def fX8_allOwed_4 (c_tenants : Int32) (c_floorBy : Nat → Int32) (c_leftBy : Nat → Int32)  (n : Nat) : Int32 → Int32 → Option (Int32) := lpN (fun _ _ => none) (bX8_allOwed_4 c_tenants c_floorBy c_leftBy ) n
noncomputable def fX8_allOwed (c_tenants : Int32) (c_floorBy : Nat → Int32) (c_leftBy : Nat → Int32) : Option (Int32) :=
  fX8_allOwed_4 c_tenants c_floorBy c_leftBy jF (0 : Int32) (0 : Int32)
noncomputable def fX8_sumBy (i1 : Int32) (c_tenants : Int32) (c_settled : Nat → Int32) (c_fell : Nat → Int32) (c_past : Nat → Int32) (c_floorBy : Nat → Int32) (c_leftBy : Nat → Int32) : Option (Int32) :=
  if i1 = (0 : Int32) then (
  bd1 (fX8_manySettled c_tenants c_settled) (fun r_4 =>
  some (r_4)))
  else (
  if i1 = (1 : Int32) then (
  bd1 (fX8_allFell c_tenants c_fell) (fun r_3 =>
  some (r_3)))
  else (
  if i1 = (2 : Int32) then (
  bd1 (fX8_allPast c_tenants c_past) (fun r_2 =>
  some (r_2)))
  else (
  bd1 (fX8_allOwed c_tenants c_floorBy c_leftBy) (fun r_1 =>
  some (r_1)))))
noncomputable def fX8_sum (i1 : Int32) (c_typed : Int32) (c_room : Int32) (c_events : Int32) (c_gone : Int32) (c_bytes : Nat → Int32) (c_event : Nat → Int32) (c_tenants : Int32) (c_sim : jT11) (c_tenant : Nat → Int32) : Option (Int32 × Int32 × jT11 × (Nat → Int32)) :=
  bd3 (fX8_find c_typed c_room c_events c_gone c_bytes c_event c_tenants c_sim c_tenant) (fun c_tenants_1 c_sim_2 c_tenant_3 =>
  bd1 (fX8_in (Int32.toInt64 i1) (0 : Int64) (3 : Int64)) (fun r_4 =>
  if r_4 = (0 : Int32) then (
  some ((-2 : Int32), c_tenants_1, c_sim_2, c_tenant_3))
  else (
  bd1 (fX8_sumBy i1 c_tenants_1 c_sim_2.2.2.2.2.1 c_sim_2.2.2.2.2.2.1 c_sim_2.2.2.2.2.2.2.1 c_sim_2.2.2.2.2.2.2.2.2.2.1 c_sim_2.2.2.2.2.2.2.2.2.2.2.1) (fun r_5 =>
  some (r_5, c_tenants_1, c_sim_2, c_tenant_3)))))
noncomputable def fX8_topNow_29 (c_tenants : Int32) (c_floor : Nat → Int32) (q_6 : Int32 → Int32 → Int32 → Option (Int32)) (i2 : Int32) (i3 : Int32) (t0 : Int32) : Option (Int32) :=
  rdA 8 c_floor i3 (fun v_2 =>
  bd1 (fX8_greater v_2 i2) (fun r_3 =>
  nmV (i3 + (1 : Int32)) (fun i3_4 =>
  q_6 t0 r_3 i3_4)))
noncomputable def bX8_topNow_6 (c_tenants : Int32) (c_floor : Nat → Int32)  (self : Int32 → Int32 → Int32 → Option (Int32)) (i1 : Int32) (i2 : Int32) (i3 : Int32) : Option (Int32) :=
  if c_tenants ≤ i3 then (
  some (i1))
  else (
  rdA 8 c_floor i3 (fun v_1 =>
  if v_1 ≤ i2 then (
  fX8_topNow_29 c_tenants c_floor self i2 i3 i1)
  else (
  fX8_topNow_29 c_tenants c_floor self i2 i3 i3)))
noncomputable def fX8_topNow_6 (c_tenants : Int32) (c_floor : Nat → Int32)  (n : Nat) : Int32 → Int32 → Int32 → Option (Int32) := lpN (fun _ _ _ => none) (bX8_topNow_6 c_tenants c_floor ) n
noncomputable def fX8_topNow (c_tenants : Int32) (c_floor : Nat → Int32) : Option (Int32) :=
  fX8_topNow_6 c_tenants c_floor jF (-1 : Int32) (-1 : Int32) (0 : Int32)
noncomputable def fX8_top (c_typed : Int32) (c_room : Int32) (c_events : Int32) (c_gone : Int32) (c_bytes : Nat → Int32) (c_event : Nat → Int32) (c_tenants : Int32) (c_sim : jT11) (c_tenant : Nat → Int32) : Option (Int32 × Int32 × jT11 × (Nat → Int32)) :=
  bd3 (fX8_find c_typed c_room c_events c_gone c_bytes c_event c_tenants c_sim c_tenant) (fun c_tenants_1 c_sim_2 c_tenant_3 =>
  bd1 (fX8_topNow c_tenants_1 c_sim_2.2.1) (fun r_4 =>
  some (r_4, c_tenants_1, c_sim_2, c_tenant_3)))
noncomputable def fX8_heardNow_93 (c_tenants : Int32) (c_floorBy : Nat → Int32) (q_65 : Int32 → Int32 → Int32 → Option (Int32)) (i1 : Int32) (i3 : Int32) (t0 : Int32) (t1 : Int32) : Option (Int32) :=
  nmV ((t1 ||| t0)) (fun i2_2 =>
  nmV (i3 + (1 : Int32)) (fun i3_3 =>
  q_65 i1 i2_2 i3_3))
noncomputable def fX8_heardNow_92 (c_tenants : Int32) (c_floorBy : Nat → Int32) (q_65 : Int32 → Int32 → Int32 → Option (Int32)) (i1 : Int32) (i3 : Int32) (t0 : Int32) : Option (Int32) :=
  fX8_heardNow_93 c_tenants c_floorBy q_65 i1 i3 (0 : Int32) t0
noncomputable def bX8_heardNow_65 (c_tenants : Int32) (c_floorBy : Nat → Int32)  (self : Int32 → Int32 → Int32 → Option (Int32)) (i1 : Int32) (i2 : Int32) (i3 : Int32) : Option (Int32) :=
  if (13 : Int32) ≤ i3 then (
  some (i2))
  else (
  bd1 (fX8_isIn i1 i3) (fun r_1 =>
  if r_1 = (0 : Int32) then (
  if (i1 >>> (i3 &&& (31 : Int32))) = (0 : Int32) then (
  fX8_heardNow_92 c_tenants c_floorBy self i1 i3 i2)
  else (
  fX8_heardNow_93 c_tenants c_floorBy self i1 i3 ((1 : Int32) <<< (i3 &&& (31 : Int32))) i2))
  else (
  fX8_heardNow_92 c_tenants c_floorBy self i1 i3 i2)))
noncomputable def fX8_heardNow_65 (c_tenants : Int32) (c_floorBy : Nat → Int32)  (n : Nat) : Int32 → Int32 → Int32 → Option (Int32) := lpN (fun _ _ _ => none) (bX8_heardNow_65 c_tenants c_floorBy ) n
noncomputable def fX8_heardNow_47 (c_tenants : Int32) (c_floorBy : Nat → Int32) (q_4 : Int32 → Int32 → Option (Int32)) (q_12 : Int32 → Int32 → Int32 → Option (Int32)) (i2 : Int32) (i3 : Int32) (t0 : Int32) (t1 : Int32) : Option (Int32) :=
  nmV ((t1 ||| t0)) (fun i1_6 =>
  nmV (i3 + (1 : Int32)) (fun i3_7 =>
  q_12 i1_6 i2 i3_7))
noncomputable def bX8_heardNow_12 (c_tenants : Int32) (c_floorBy : Nat → Int32) (q_4 : Int32 → Int32 → Option (Int32)) (self : Int32 → Int32 → Int32 → Option (Int32)) (i1 : Int32) (i2 : Int32) (i3 : Int32) : Option (Int32) :=
  if c_tenants ≤ i3 then (
  nmV (i2 + (1 : Int32)) (fun i2_4 =>
  q_4 i1 i2_4))
  else (
  rdA 192 c_floorBy (((8 : Int32) * i2) + i3) (fun v_5 =>
  if v_5 ≤ (0 : Int32) then (
  fX8_heardNow_47 c_tenants c_floorBy q_4 self i2 i3 (0 : Int32) i1)
  else (
  fX8_heardNow_47 c_tenants c_floorBy q_4 self i2 i3 ((1 : Int32) <<< (v_5 &&& (31 : Int32))) i1)))
noncomputable def fX8_heardNow_12 (c_tenants : Int32) (c_floorBy : Nat → Int32) (q_4 : Int32 → Int32 → Option (Int32)) (n : Nat) : Int32 → Int32 → Int32 → Option (Int32) := lpN (fun _ _ _ => none) (bX8_heardNow_12 c_tenants c_floorBy q_4) n
noncomputable def bX8_heardNow_4 (c_tenants : Int32) (c_floorBy : Nat → Int32)  (self : Int32 → Int32 → Option (Int32)) (i1 : Int32) (i2 : Int32) : Option (Int32) :=
  if (24 : Int32) ≤ i2 then (
  fX8_heardNow_65 c_tenants c_floorBy jF i1 (0 : Int32) (1 : Int32))
  else (
  fX8_heardNow_12 c_tenants c_floorBy self jF i1 i2 (0 : Int32))
noncomputable def fX8_heardNow_4 (c_tenants : Int32) (c_floorBy : Nat → Int32)  (n : Nat) : Int32 → Int32 → Option (Int32) := lpN (fun _ _ => none) (bX8_heardNow_4 c_tenants c_floorBy ) n
noncomputable def fX8_heardNow (c_tenants : Int32) (c_floorBy : Nat → Int32) : Option (Int32) :=
  fX8_heardNow_4 c_tenants c_floorBy jF (0 : Int32) (0 : Int32)
noncomputable def fX8_heard (c_typed : Int32) (c_room : Int32) (c_events : Int32) (c_gone : Int32) (c_bytes : Nat → Int32) (c_event : Nat → Int32) (c_tenants : Int32) (c_sim : jT11) (c_tenant : Nat → Int32) : Option (Int32 × Int32 × jT11 × (Nat → Int32)) :=
  bd3 (fX8_find c_typed c_room c_events c_gone c_bytes c_event c_tenants c_sim c_tenant) (fun c_tenants_1 c_sim_2 c_tenant_3 =>
  bd1 (fX8_heardNow c_tenants_1 c_sim_2.2.2.2.2.2.2.2.2.2.1) (fun r_4 =>
  some (r_4, c_tenants_1, c_sim_2, c_tenant_3)))
noncomputable def fX8_cost (c_tenants : Int32) (c_room : Int32) (c_events : Int32) (c_gone : Int32) (c_tenant : Nat → Int32) (c_event : Nat → Int32) (c_sim : jT11) : Option (Int32 × jT11) :=
  bd1 (fX8_lives c_tenants c_room c_events c_gone c_tenant c_event c_sim) (fun c_sim_1 =>
  bd1 (fX8_manySettled c_tenants c_sim_1.2.2.2.2.1) (fun r_2 =>
  bd1 (fX8_allFell c_tenants c_sim_1.2.2.2.2.2.1) (fun r_3 =>
  some ((((1000 : Int32) * r_2) + r_3), c_sim_1))))
noncomputable def fX8_tenantBetter_52 (i1 : Int32) (i2 : Int32) (i3 : Int32) (c_tenants : Int32) (c_room : Int32) (c_events : Int32) (c_gone : Int32) (c_event : Nat → Int32) (q_18 : jT11 → (Nat → Int32) → Int32 → Int32 → Int32 → Int32 → (Option (Int32 × jT11 × (Nat → Int32)))) (c_sim : jT11) (c_tenant : Nat → Int32) (i4 : Int32) (i6 : Int32) (i7 : Int32) (i8 : Int32) (t0 : Int32) : Option (Int32 × jT11 × (Nat → Int32)) :=
  bd1 (fX8_lesser i8 i6) (fun r_6 =>
  nmV (i7 + (1 : Int32)) (fun i7_7 =>
  q_18 c_sim c_tenant i4 t0 r_6 i7_7))
noncomputable def bX8_tenantBetter_18 (i1 : Int32) (i2 : Int32) (i3 : Int32) (c_tenants : Int32) (c_room : Int32) (c_events : Int32) (c_gone : Int32) (c_event : Nat → Int32)  (self : jT11 → (Nat → Int32) → Int32 → Int32 → Int32 → Int32 → (Option (Int32 × jT11 × (Nat → Int32)))) (c_sim : jT11) (c_tenant : Nat → Int32) (i4 : Int32) (i5 : Int32) (i6 : Int32) (i7 : Int32) : Option (Int32 × jT11 × (Nat → Int32)) :=
  if i2 ≤ i7 then (
  wrI 24 c_tenant i1 i4 (fun c_tenant_2 =>
  if i3 = (0 : Int32) then (
  some (i5, c_sim, c_tenant_2))
  else (
  if i3 = (1 : Int32) then (
  some ((i6 / (1000 : Int32)), c_sim, c_tenant_2))
  else (
  some ((i6 - i6 / (1000 : Int32) * (1000 : Int32)), c_sim, c_tenant_2)))))
  else (
  wrI 24 c_tenant i1 i7 (fun c_tenant_3 =>
  bd2 (fX8_cost c_tenants c_room c_events c_gone c_tenant_3 c_event c_sim) (fun r_4 c_sim_5 =>
  if i6 ≤ r_4 then (
  fX8_tenantBetter_52 i1 i2 i3 c_tenants c_room c_events c_gone c_event self c_sim_5 c_tenant_3 i4 i6 i7 r_4 i5)
  else (
  fX8_tenantBetter_52 i1 i2 i3 c_tenants c_room c_events c_gone c_event self c_sim_5 c_tenant_3 i4 i6 i7 r_4 i7))))
noncomputable def fX8_tenantBetter_18 (i1 : Int32) (i2 : Int32) (i3 : Int32) (c_tenants : Int32) (c_room : Int32) (c_events : Int32) (c_gone : Int32) (c_event : Nat → Int32)  (n : Nat) : jT11 → (Nat → Int32) → Int32 → Int32 → Int32 → Int32 → (Option (Int32 × jT11 × (Nat → Int32))) := lpN (fun _ _ _ _ _ _ => none) (bX8_tenantBetter_18 i1 i2 i3 c_tenants c_room c_events c_gone c_event ) n
noncomputable def fX8_tenantBetter (i1 : Int32) (i2 : Int32) (i3 : Int32) (c_tenants : Int32) (c_room : Int32) (c_events : Int32) (c_gone : Int32) (c_event : Nat → Int32) (c_sim : jT11) (c_tenant : Nat → Int32) : Option (Int32 × jT11 × (Nat → Int32)) :=
  rdA 24 c_tenant i1 (fun v_1 =>
  fX8_tenantBetter_18 i1 i2 i3 c_tenants c_room c_events c_gone c_event jF c_sim c_tenant v_1 (-1 : Int32) (999999 : Int32) (0 : Int32))
noncomputable def fX8_earn (i1 : Int32) (i2 : Int32) (c_typed : Int32) (c_room : Int32) (c_events : Int32) (c_gone : Int32) (c_bytes : Nat → Int32) (c_event : Nat → Int32) (c_tenants : Int32) (c_sim : jT11) (c_tenant : Nat → Int32) : Option (Int32 × Int32 × jT11 × (Nat → Int32)) :=
  bd3 (fX8_find c_typed c_room c_events c_gone c_bytes c_event c_tenants c_sim c_tenant) (fun c_tenants_1 c_sim_2 c_tenant_3 =>
  bd1 (fX8_isTenant i1 c_tenants_1) (fun r_4 =>
  if r_4 = (0 : Int32) then (
  some ((-2 : Int32), c_tenants_1, c_sim_2, c_tenant_3))
  else (
  bd1 (fX8_in (Int32.toInt64 i2) (0 : Int64) (2 : Int64)) (fun r_5 =>
  if r_5 = (0 : Int32) then (
  some ((-2 : Int32), c_tenants_1, c_sim_2, c_tenant_3))
  else (
  bd3 (fX8_tenantBetter (((3 : Int32) * i1) + (2 : Int32)) (10 : Int32) i2 c_tenants_1 c_room c_events c_gone c_event c_sim_2 c_tenant_3) (fun r_6 c_sim_7 c_tenant_8 =>
  some (r_6, c_tenants_1, c_sim_7, c_tenant_8)))))))
noncomputable def fX8_be (i1 : Int32) (i2 : Int32) (c_typed : Int32) (c_room : Int32) (c_events : Int32) (c_gone : Int32) (c_bytes : Nat → Int32) (c_event : Nat → Int32) (c_tenants : Int32) (c_sim : jT11) (c_tenant : Nat → Int32) : Option (Int32 × Int32 × jT11 × (Nat → Int32)) :=
  bd3 (fX8_find c_typed c_room c_events c_gone c_bytes c_event c_tenants c_sim c_tenant) (fun c_tenants_1 c_sim_2 c_tenant_3 =>
  bd1 (fX8_isTenant i1 c_tenants_1) (fun r_4 =>
  if r_4 = (0 : Int32) then (
  some ((-2 : Int32), c_tenants_1, c_sim_2, c_tenant_3))
  else (
  bd1 (fX8_in (Int32.toInt64 i2) (0 : Int64) (2 : Int64)) (fun r_5 =>
  if r_5 = (0 : Int32) then (
  some ((-2 : Int32), c_tenants_1, c_sim_2, c_tenant_3))
  else (
  bd3 (fX8_tenantBetter ((3 : Int32) * i1) (4 : Int32) i2 c_tenants_1 c_room c_events c_gone c_event c_sim_2 c_tenant_3) (fun r_6 c_sim_7 c_tenant_8 =>
  some (r_6, c_tenants_1, c_sim_7, c_tenant_8)))))))
noncomputable def fX8_widenBy_46 (i1 : Int32) (c_tenants : Int32) (c_events : Int32) (c_gone : Int32) (c_tenant : Nat → Int32) (c_event : Nat → Int32) (q_14 : Int32 → jT11 → Int32 → Int32 → Int32 → Int32 → (Option (Int32 × Int32 × jT11))) (c_room : Int32) (c_sim : jT11) (i2 : Int32) (i4 : Int32) (i5 : Int32) (i6 : Int32) (t0 : Int32) : Option (Int32 × Int32 × jT11) :=
  bd1 (fX8_lesser i6 i4) (fun r_3 =>
  nmV (i5 + (1 : Int32)) (fun i5_4 =>
  q_14 c_room c_sim i2 t0 r_3 i5_4))
noncomputable def bX8_widenBy_14 (i1 : Int32) (c_tenants : Int32) (c_events : Int32) (c_gone : Int32) (c_tenant : Nat → Int32) (c_event : Nat → Int32)  (self : Int32 → jT11 → Int32 → Int32 → Int32 → Int32 → (Option (Int32 × Int32 × jT11))) (c_room : Int32) (c_sim : jT11) (i2 : Int32) (i3 : Int32) (i4 : Int32) (i5 : Int32) : Option (Int32 × Int32 × jT11) :=
  if (9 : Int32) ≤ i5 then (
  if i1 = (0 : Int32) then (
  some (i3, i2, c_sim))
  else (
  if i1 = (1 : Int32) then (
  some ((i4 / (1000 : Int32)), i2, c_sim))
  else (
  some ((i4 - i4 / (1000 : Int32) * (1000 : Int32)), i2, c_sim))))
  else (
  bd2 (fX8_cost c_tenants i5 c_events c_gone c_tenant c_event c_sim) (fun r_1 c_sim_2 =>
  if i4 ≤ r_1 then (
  fX8_widenBy_46 i1 c_tenants c_events c_gone c_tenant c_event self i5 c_sim_2 i2 i4 i5 r_1 i3)
  else (
  fX8_widenBy_46 i1 c_tenants c_events c_gone c_tenant c_event self i5 c_sim_2 i2 i4 i5 r_1 i5)))
noncomputable def fX8_widenBy_14 (i1 : Int32) (c_tenants : Int32) (c_events : Int32) (c_gone : Int32) (c_tenant : Nat → Int32) (c_event : Nat → Int32)  (n : Nat) : Int32 → jT11 → Int32 → Int32 → Int32 → Int32 → (Option (Int32 × Int32 × jT11)) := lpN (fun _ _ _ _ _ _ => none) (bX8_widenBy_14 i1 c_tenants c_events c_gone c_tenant c_event ) n
noncomputable def fX8_widenBy (i1 : Int32) (c_tenants : Int32) (c_events : Int32) (c_gone : Int32) (c_tenant : Nat → Int32) (c_event : Nat → Int32) (c_room : Int32) (c_sim : jT11) : Option (Int32 × Int32 × jT11) :=
  fX8_widenBy_14 i1 c_tenants c_events c_gone c_tenant c_event jF c_room c_sim c_room (-1 : Int32) (999999 : Int32) (1 : Int32)
noncomputable def fX8_widen (i1 : Int32) (c_typed : Int32) (c_events : Int32) (c_gone : Int32) (c_bytes : Nat → Int32) (c_event : Nat → Int32) (c_tenants : Int32) (c_room : Int32) (c_sim : jT11) (c_tenant : Nat → Int32) : Option (Int32 × Int32 × Int32 × jT11 × (Nat → Int32)) :=
  bd3 (fX8_find c_typed c_room c_events c_gone c_bytes c_event c_tenants c_sim c_tenant) (fun c_tenants_1 c_sim_2 c_tenant_3 =>
  bd1 (fX8_in (Int32.toInt64 i1) (0 : Int64) (2 : Int64)) (fun r_4 =>
  if r_4 = (0 : Int32) then (
  some ((-2 : Int32), c_tenants_1, c_room, c_sim_2, c_tenant_3))
  else (
  bd3 (fX8_widenBy i1 c_tenants_1 c_events c_gone c_tenant_3 c_event c_room c_sim_2) (fun r_5 c_room_6 c_sim_7 =>
  some (r_5, c_tenants_1, c_room_6, c_sim_7, c_tenant_3)))))
noncomputable def fX8_isSpared (i1 : Int32) (c_tenants : Int32) (c_room : Int32) (c_events : Int32) (c_tenant : Nat → Int32) (c_event : Nat → Int32) (c_gone : Int32) (c_sim : jT11) : Option (Int32 × Int32 × jT11) :=
  bd1 (fX8_lives c_tenants c_room c_events i1 c_tenant c_event c_sim) (fun c_sim_1 =>
  bd1 (fX8_manySettled c_tenants c_sim_1.2.2.2.2.1) (fun r_2 =>
  if r_2 = (0 : Int32) then (
  some ((1 : Int32), (0 : Int32), c_sim_1))
  else (
  some ((0 : Int32), (0 : Int32), c_sim_1))))
noncomputable def bX8_spareBy_78 (i1 : Int32) (c_tenants : Int32) (c_room : Int32) (c_events : Int32) (c_tenant : Nat → Int32) (c_event : Nat → Int32) (q_66 : Int32 → jT11 → Int32 → (Option (Int32 × Int32 × jT11))) (self : Int32 → jT11 → Int32 → Int32 → (Option (Int32 × Int32 × jT11))) (c_gone : Int32) (c_sim : jT11) (i2 : Int32) (i3 : Int32) : Option (Int32 × Int32 × jT11) :=
  if c_events ≤ i3 then (
  nmV (i2 + (1 : Int32)) (fun i2_5 =>
  q_66 c_gone c_sim i2_5))
  else (
  bd3 (fX8_isSpared (((1 : Int32) <<< (i2 &&& (31 : Int32))) ||| ((1 : Int32) <<< (i3 &&& (31 : Int32)))) c_tenants c_room c_events c_tenant c_event c_gone c_sim) (fun r_6 c_gone_7 c_sim_8 =>
  if r_6 = (0 : Int32) then (
  nmV (i3 + (1 : Int32)) (fun i3_9 =>
  self c_gone_7 c_sim_8 i2 i3_9))
  else (
  if i1 = (-1 : Int32) then (
  some ((2 : Int32), c_gone_7, c_sim_8))
  else (
  if i1 = (0 : Int32) then (
  some (i2, c_gone_7, c_sim_8))
  else (
  some (i3, c_gone_7, c_sim_8))))))
noncomputable def fX8_spareBy_78 (i1 : Int32) (c_tenants : Int32) (c_room : Int32) (c_events : Int32) (c_tenant : Nat → Int32) (c_event : Nat → Int32) (q_66 : Int32 → jT11 → Int32 → (Option (Int32 × Int32 × jT11))) (n : Nat) : Int32 → jT11 → Int32 → Int32 → (Option (Int32 × Int32 × jT11)) := lpN (fun _ _ _ _ => none) (bX8_spareBy_78 i1 c_tenants c_room c_events c_tenant c_event q_66) n
noncomputable def bX8_spareBy_66 (i1 : Int32) (c_tenants : Int32) (c_room : Int32) (c_events : Int32) (c_tenant : Nat → Int32) (c_event : Nat → Int32)  (self : Int32 → jT11 → Int32 → (Option (Int32 × Int32 × jT11))) (c_gone : Int32) (c_sim : jT11) (i2 : Int32) : Option (Int32 × Int32 × jT11) :=
  if c_events ≤ i2 then (
  some ((-1 : Int32), c_gone, c_sim))
  else (
  nmV ((i2 + (1 : Int32))) (fun i3_4 =>
  fX8_spareBy_78 i1 c_tenants c_room c_events c_tenant c_event self jF c_gone c_sim i2 i3_4))
noncomputable def fX8_spareBy_66 (i1 : Int32) (c_tenants : Int32) (c_room : Int32) (c_events : Int32) (c_tenant : Nat → Int32) (c_event : Nat → Int32)  (n : Nat) : Int32 → jT11 → Int32 → (Option (Int32 × Int32 × jT11)) := lpN (fun _ _ _ => none) (bX8_spareBy_66 i1 c_tenants c_room c_events c_tenant c_event ) n
noncomputable def bX8_spareBy_21 (i1 : Int32) (c_tenants : Int32) (c_room : Int32) (c_events : Int32) (c_tenant : Nat → Int32) (c_event : Nat → Int32)  (self : Int32 → jT11 → Int32 → (Option (Int32 × Int32 × jT11))) (c_gone : Int32) (c_sim : jT11) (i2 : Int32) : Option (Int32 × Int32 × jT11) :=
  if c_events ≤ i2 then (
  fX8_spareBy_66 i1 c_tenants c_room c_events c_tenant c_event jF c_gone c_sim (0 : Int32))
  else (
  bd3 (fX8_isSpared ((1 : Int32) <<< (i2 &&& (31 : Int32))) c_tenants c_room c_events c_tenant c_event c_gone c_sim) (fun r_10 c_gone_11 c_sim_12 =>
  if r_10 = (0 : Int32) then (
  nmV (i2 + (1 : Int32)) (fun i2_13 =>
  self c_gone_11 c_sim_12 i2_13))
  else (
  if i1 = (-1 : Int32) then (
  some ((1 : Int32), c_gone_11, c_sim_12))
  else (
  if i1 = (0 : Int32) then (
  some (i2, c_gone_11, c_sim_12))
  else (
  some ((-1 : Int32), c_gone_11, c_sim_12))))))
noncomputable def fX8_spareBy_21 (i1 : Int32) (c_tenants : Int32) (c_room : Int32) (c_events : Int32) (c_tenant : Nat → Int32) (c_event : Nat → Int32)  (n : Nat) : Int32 → jT11 → Int32 → (Option (Int32 × Int32 × jT11)) := lpN (fun _ _ _ => none) (bX8_spareBy_21 i1 c_tenants c_room c_events c_tenant c_event ) n
noncomputable def fX8_spareBy (i1 : Int32) (c_tenants : Int32) (c_room : Int32) (c_events : Int32) (c_tenant : Nat → Int32) (c_event : Nat → Int32) (c_gone : Int32) (c_sim : jT11) : Option (Int32 × Int32 × jT11) :=
  bd3 (fX8_isSpared (0 : Int32) c_tenants c_room c_events c_tenant c_event c_gone c_sim) (fun r_1 c_gone_2 c_sim_3 =>
  if r_1 = (0 : Int32) then (
  fX8_spareBy_21 i1 c_tenants c_room c_events c_tenant c_event jF c_gone_2 c_sim_3 (0 : Int32))
  else (
  if i1 = (-1 : Int32) then (
  some ((0 : Int32), c_gone_2, c_sim_3))
  else (
  some ((-1 : Int32), c_gone_2, c_sim_3))))
noncomputable def fX8_spare (i1 : Int32) (c_typed : Int32) (c_room : Int32) (c_events : Int32) (c_bytes : Nat → Int32) (c_event : Nat → Int32) (c_tenants : Int32) (c_gone : Int32) (c_sim : jT11) (c_tenant : Nat → Int32) : Option (Int32 × Int32 × Int32 × jT11 × (Nat → Int32)) :=
  bd3 (fX8_find c_typed c_room c_events c_gone c_bytes c_event c_tenants c_sim c_tenant) (fun c_tenants_1 c_sim_2 c_tenant_3 =>
  bd1 (fX8_in (Int32.toInt64 i1) (-1 : Int64) (1 : Int64)) (fun r_4 =>
  if r_4 = (0 : Int32) then (
  some ((-2 : Int32), c_tenants_1, c_gone, c_sim_2, c_tenant_3))
  else (
  bd3 (fX8_spareBy i1 c_tenants_1 c_room c_events c_tenant_3 c_event c_gone c_sim_2) (fun r_5 c_gone_6 c_sim_7 =>
  some (r_5, c_tenants_1, c_gone_6, c_sim_7, c_tenant_3)))))
noncomputable def fX8_seen (i1 : Int32) (i2 : Int32) (i3 : Int32) (c_sights : Int32) (c_sight : Nat → Int32) : Option (Int32 × Int32 × (Nat → Int32)) :=
  bd1 (fX8_isMonth i1) (fun r_1 =>
  if r_1 = (0 : Int32) then (
  some ((-2 : Int32), c_sights, c_sight))
  else (
  bd1 (fX8_in (Int32.toInt64 i2) (0 : Int64) (7 : Int64)) (fun r_2 =>
  if r_2 = (0 : Int32) then (
  some ((-2 : Int32), c_sights, c_sight))
  else (
  bd1 (fX8_in (Int32.toInt64 i3) (-1 : Int64) (12 : Int64)) (fun r_3 =>
  if r_3 = (0 : Int32) then (
  some ((-2 : Int32), c_sights, c_sight))
  else (
  if c_sights = (8 : Int32) then (
  some ((-4 : Int32), c_sights, c_sight))
  else (
  wrI 24 c_sight ((3 : Int32) * c_sights) i1 (fun c_sight_4 =>
  wrI 24 c_sight_4 (((3 : Int32) * c_sights) + (1 : Int32)) i2 (fun c_sight_5 =>
  wrI 24 c_sight_5 (((3 : Int32) * c_sights) + (2 : Int32)) i3 (fun c_sight_6 =>
  nmV ((c_sights + (1 : Int32))) (fun c_sights_7 =>
  some (c_sights_7, c_sights_7, c_sight_6))))))))))))
noncomputable def fX8_forget (c_sights : Int32) : Option (Int32 × Int32) :=
  some (c_sights, (0 : Int32))
noncomputable def fX8_isSeen_75 (c_tenants : Int32) (c_room : Int32) (c_events : Int32) (c_gone : Int32) (c_sights : Int32) (c_tenant : Nat → Int32) (c_event : Nat → Int32) (c_sight : Nat → Int32) (q_8 : jT11 → Int32 → Int32 → (Option (Int32 × jT11))) (c_sim : jT11) (i2 : Int32) (t0 : Int32) : Option (Int32 × jT11) :=
  nmV (i2 + (1 : Int32)) (fun i2_3 =>
  q_8 c_sim t0 i2_3)
noncomputable def fX8_isSeen_74 (c_tenants : Int32) (c_room : Int32) (c_events : Int32) (c_gone : Int32) (c_sights : Int32) (c_tenant : Nat → Int32) (c_event : Nat → Int32) (c_sight : Nat → Int32) (q_8 : jT11 → Int32 → Int32 → (Option (Int32 × jT11))) (c_sim : jT11) (i2 : Int32) : Option (Int32 × jT11) :=
  fX8_isSeen_75 c_tenants c_room c_events c_gone c_sights c_tenant c_event c_sight q_8 c_sim i2 (0 : Int32)
noncomputable def bX8_isSeen_8 (c_tenants : Int32) (c_room : Int32) (c_events : Int32) (c_gone : Int32) (c_sights : Int32) (c_tenant : Nat → Int32) (c_event : Nat → Int32) (c_sight : Nat → Int32)  (self : jT11 → Int32 → Int32 → (Option (Int32 × jT11))) (c_sim : jT11) (i1 : Int32) (i2 : Int32) : Option (Int32 × jT11) :=
  if c_sights ≤ i2 then (
  ckB i1 (
  some (i1, c_sim)))
  else (
  rdA 24 c_sight (((3 : Int32) * i2) + (1 : Int32)) (fun v_2 =>
  if i1 = (0 : Int32) then (
  fX8_isSeen_74 c_tenants c_room c_events c_gone c_sights c_tenant c_event c_sight self c_sim i2)
  else (
  bd1 (fX8_isTenant v_2 c_tenants) (fun r_4 =>
  if r_4 = (0 : Int32) then (
  fX8_isSeen_74 c_tenants c_room c_events c_gone c_sights c_tenant c_event c_sight self c_sim i2)
  else (
  rdA 24 c_sight ((3 : Int32) * i2) (fun v_5 =>
  rdA 192 c_sim.2.2.2.2.2.2.2.2.2.1 (((8 : Int32) * v_5) + v_2) (fun v_6 =>
  rdA 24 c_sight (((3 : Int32) * i2) + (2 : Int32)) (fun v_7 =>
  if v_6 = v_7 then (
  fX8_isSeen_75 c_tenants c_room c_events c_gone c_sights c_tenant c_event c_sight self c_sim i2 (1 : Int32))
  else (
  fX8_isSeen_74 c_tenants c_room c_events c_gone c_sights c_tenant c_event c_sight self c_sim i2)))))))))
noncomputable def fX8_isSeen_8 (c_tenants : Int32) (c_room : Int32) (c_events : Int32) (c_gone : Int32) (c_sights : Int32) (c_tenant : Nat → Int32) (c_event : Nat → Int32) (c_sight : Nat → Int32)  (n : Nat) : jT11 → Int32 → Int32 → (Option (Int32 × jT11)) := lpN (fun _ _ _ => none) (bX8_isSeen_8 c_tenants c_room c_events c_gone c_sights c_tenant c_event c_sight ) n
noncomputable def fX8_isSeen (c_tenants : Int32) (c_room : Int32) (c_events : Int32) (c_gone : Int32) (c_sights : Int32) (c_tenant : Nat → Int32) (c_event : Nat → Int32) (c_sight : Nat → Int32) (c_sim : jT11) : Option (Int32 × jT11) :=
  bd1 (fX8_lives c_tenants c_room c_events c_gone c_tenant c_event c_sim) (fun c_sim_1 =>
  fX8_isSeen_8 c_tenants c_room c_events c_gone c_sights c_tenant c_event c_sight jF c_sim_1 (1 : Int32) (0 : Int32))
noncomputable def fX8_neverNow_34 (c_tenants : Int32) (c_room : Int32) (c_events : Int32) (c_sights : Int32) (c_tenant : Nat → Int32) (c_event : Nat → Int32) (c_sight : Nat → Int32) (q_4 : Int32 → jT11 → Int32 → Int32 → (Option (Int32 × Int32 × jT11))) (c_gone : Int32) (c_sim : jT11) (i2 : Int32) (t0 : Int32) (t1 : Int32) : Option (Int32 × Int32 × jT11) :=
  nmV ((t1 ||| t0)) (fun i1_4 =>
  nmV (i2 + (1 : Int32)) (fun i2_5 =>
  q_4 c_gone c_sim i1_4 i2_5))
noncomputable def bX8_neverNow_4 (c_tenants : Int32) (c_room : Int32) (c_events : Int32) (c_sights : Int32) (c_tenant : Nat → Int32) (c_event : Nat → Int32) (c_sight : Nat → Int32)  (self : Int32 → jT11 → Int32 → Int32 → (Option (Int32 × Int32 × jT11))) (c_gone : Int32) (c_sim : jT11) (i1 : Int32) (i2 : Int32) : Option (Int32 × Int32 × jT11) :=
  if c_events ≤ i2 then (
  some (i1, (0 : Int32), c_sim))
  else (
  nmV (((1 : Int32) <<< (i2 &&& (31 : Int32)))) (fun c_gone_1 =>
  bd2 (fX8_isSeen c_tenants c_room c_events c_gone_1 c_sights c_tenant c_event c_sight c_sim) (fun r_2 c_sim_3 =>
  if r_2 = (0 : Int32) then (
  fX8_neverNow_34 c_tenants c_room c_events c_sights c_tenant c_event c_sight self c_gone_1 c_sim_3 i2 (0 : Int32) i1)
  else (
  fX8_neverNow_34 c_tenants c_room c_events c_sights c_tenant c_event c_sight self c_gone_1 c_sim_3 i2 ((1 : Int32) <<< (i2 &&& (31 : Int32))) i1))))
noncomputable def fX8_neverNow_4 (c_tenants : Int32) (c_room : Int32) (c_events : Int32) (c_sights : Int32) (c_tenant : Nat → Int32) (c_event : Nat → Int32) (c_sight : Nat → Int32)  (n : Nat) : Int32 → jT11 → Int32 → Int32 → (Option (Int32 × Int32 × jT11)) := lpN (fun _ _ _ _ => none) (bX8_neverNow_4 c_tenants c_room c_events c_sights c_tenant c_event c_sight ) n
noncomputable def fX8_neverNow (c_tenants : Int32) (c_room : Int32) (c_events : Int32) (c_sights : Int32) (c_tenant : Nat → Int32) (c_event : Nat → Int32) (c_sight : Nat → Int32) (c_gone : Int32) (c_sim : jT11) : Option (Int32 × Int32 × jT11) :=
  fX8_neverNow_4 c_tenants c_room c_events c_sights c_tenant c_event c_sight jF c_gone c_sim (0 : Int32) (0 : Int32)
noncomputable def fX8_never (c_typed : Int32) (c_room : Int32) (c_events : Int32) (c_sights : Int32) (c_bytes : Nat → Int32) (c_event : Nat → Int32) (c_sight : Nat → Int32) (c_tenants : Int32) (c_gone : Int32) (c_sim : jT11) (c_tenant : Nat → Int32) : Option (Int32 × Int32 × Int32 × jT11 × (Nat → Int32)) :=
  bd3 (fX8_find c_typed c_room c_events c_gone c_bytes c_event c_tenants c_sim c_tenant) (fun c_tenants_1 c_sim_2 c_tenant_3 =>
  bd3 (fX8_neverNow c_tenants_1 c_room c_events c_sights c_tenant_3 c_event c_sight c_gone c_sim_2) (fun r_4 c_gone_5 c_sim_6 =>
  some (r_4, c_tenants_1, c_gone_5, c_sim_6, c_tenant_3)))
noncomputable def bX8_rowOf_5 (i1 : Int32) (c_tenants : Int32) (c_floorBy : Nat → Int32)  (self : Int64 → Int32 → Option (Int64)) (l2 : Int64) (i4 : Int32) : Option (Int64) :=
  if c_tenants ≤ i4 then (
  some (l2))
  else (
  rdA 192 c_floorBy (((8 : Int32) * i1) + i4) (fun v_1 =>
  nmV (((((14 : Int64) * l2) + (Int32.toInt64 v_1)) + (1 : Int64))) (fun l2_2 =>
  nmV (i4 + (1 : Int32)) (fun i4_3 =>
  self l2_2 i4_3))))
noncomputable def fX8_rowOf_5 (i1 : Int32) (c_tenants : Int32) (c_floorBy : Nat → Int32)  (n : Nat) : Int64 → Int32 → Option (Int64) := lpN (fun _ _ => none) (bX8_rowOf_5 i1 c_tenants c_floorBy ) n
noncomputable def fX8_rowOf (i1 : Int32) (c_tenants : Int32) (c_floorBy : Nat → Int32) : Option (Int64) :=
  fX8_rowOf_5 i1 c_tenants c_floorBy jF (0 : Int64) (0 : Int32)
noncomputable def bX8_wagesOf_57 (i1 : Int32) (c_tenants : Int32) (c_room : Int32) (c_events : Int32) (c_gone : Int32) (c_sights : Int32) (c_event : Nat → Int32) (c_sight : Nat → Int32) (q_19 : jT11 → (Nat → Int32) → (Nat → Int64) → Int32 → Int32 → Int32 → Int32 → (Option (Int32 × jT11 × (Nat → Int32) × (Nat → Int64)))) (self : jT11 → (Nat → Int32) → (Nat → Int64) → Int32 → Int32 → Int32 → Int32 → Int32 → (Option (Int32 × jT11 × (Nat → Int32) × (Nat → Int64)))) (c_sim : jT11) (c_tenant : Nat → Int32) (c_rows : Nat → Int64) (i2 : Int32) (i3 : Int32) (i4 : Int32) (i5 : Int32) (i6 : Int32) : Option (Int32 × jT11 × (Nat → Int32) × (Nat → Int64)) :=
  if (24 : Int32) ≤ i6 then (
  nmV (i5 + (1 : Int32)) (fun i5_8 =>
  q_19 c_sim c_tenant c_rows i2 i3 i4 i5_8))
  else (
  bd1 (fX8_rowOf i6 c_tenants c_sim.2.2.2.2.2.2.2.2.2.1) (fun r_9 =>
  wrL 240 c_rows (((24 : Int32) * i5) + i6) r_9 (fun c_rows_10 =>
  nmV (i6 + (1 : Int32)) (fun i6_11 =>
  self c_sim c_tenant c_rows_10 i2 i3 i4 i5 i6_11))))
noncomputable def fX8_wagesOf_57 (i1 : Int32) (c_tenants : Int32) (c_room : Int32) (c_events : Int32) (c_gone : Int32) (c_sights : Int32) (c_event : Nat → Int32) (c_sight : Nat → Int32) (q_19 : jT11 → (Nat → Int32) → (Nat → Int64) → Int32 → Int32 → Int32 → Int32 → (Option (Int32 × jT11 × (Nat → Int32) × (Nat → Int64)))) (n : Nat) : jT11 → (Nat → Int32) → (Nat → Int64) → Int32 → Int32 → Int32 → Int32 → Int32 → (Option (Int32 × jT11 × (Nat → Int32) × (Nat → Int64))) := lpN (fun _ _ _ _ _ _ _ _ => none) (bX8_wagesOf_57 i1 c_tenants c_room c_events c_gone c_sights c_event c_sight q_19) n
noncomputable def fX8_wagesOf_51 (i1 : Int32) (c_tenants : Int32) (c_room : Int32) (c_events : Int32) (c_gone : Int32) (c_sights : Int32) (c_event : Nat → Int32) (c_sight : Nat → Int32) (q_19 : jT11 → (Nat → Int32) → (Nat → Int64) → Int32 → Int32 → Int32 → Int32 → (Option (Int32 × jT11 × (Nat → Int32) × (Nat → Int64)))) (c_sim : jT11) (c_tenant : Nat → Int32) (c_rows : Nat → Int64) (i2 : Int32) (i3 : Int32) (i5 : Int32) (t0 : Int32) (t1 : Int32) : Option (Int32 × jT11 × (Nat → Int32) × (Nat → Int64)) :=
  nmV ((t1 ||| t0)) (fun i4_7 =>
  fX8_wagesOf_57 i1 c_tenants c_room c_events c_gone c_sights c_event c_sight q_19 jF c_sim c_tenant c_rows i2 i3 i4_7 i5 (0 : Int32))
noncomputable def bX8_wagesOf_19 (i1 : Int32) (c_tenants : Int32) (c_room : Int32) (c_events : Int32) (c_gone : Int32) (c_sights : Int32) (c_event : Nat → Int32) (c_sight : Nat → Int32)  (self : jT11 → (Nat → Int32) → (Nat → Int64) → Int32 → Int32 → Int32 → Int32 → (Option (Int32 × jT11 × (Nat → Int32) × (Nat → Int64)))) (c_sim : jT11) (c_tenant : Nat → Int32) (c_rows : Nat → Int64) (i2 : Int32) (i3 : Int32) (i4 : Int32) (i5 : Int32) : Option (Int32 × jT11 × (Nat → Int32) × (Nat → Int64)) :=
  if (10 : Int32) ≤ i5 then (
  wrI 24 c_tenant i2 i3 (fun c_tenant_3 =>
  some (i4, c_sim, c_tenant_3, c_rows)))
  else (
  wrI 24 c_tenant i2 i5 (fun c_tenant_4 =>
  bd2 (fX8_isSeen c_tenants c_room c_events c_gone c_sights c_tenant_4 c_event c_sight c_sim) (fun r_5 c_sim_6 =>
  if r_5 = (0 : Int32) then (
  fX8_wagesOf_51 i1 c_tenants c_room c_events c_gone c_sights c_event c_sight self c_sim_6 c_tenant_4 c_rows i2 i3 i5 (0 : Int32) i4)
  else (
  fX8_wagesOf_51 i1 c_tenants c_room c_events c_gone c_sights c_event c_sight self c_sim_6 c_tenant_4 c_rows i2 i3 i5 ((1 : Int32) <<< (i5 &&& (31 : Int32))) i4))))
noncomputable def fX8_wagesOf_19 (i1 : Int32) (c_tenants : Int32) (c_room : Int32) (c_events : Int32) (c_gone : Int32) (c_sights : Int32) (c_event : Nat → Int32) (c_sight : Nat → Int32)  (n : Nat) : jT11 → (Nat → Int32) → (Nat → Int64) → Int32 → Int32 → Int32 → Int32 → (Option (Int32 × jT11 × (Nat → Int32) × (Nat → Int64))) := lpN (fun _ _ _ _ _ _ _ => none) (bX8_wagesOf_19 i1 c_tenants c_room c_events c_gone c_sights c_event c_sight ) n
noncomputable def fX8_wagesOf (i1 : Int32) (c_tenants : Int32) (c_room : Int32) (c_events : Int32) (c_gone : Int32) (c_sights : Int32) (c_event : Nat → Int32) (c_sight : Nat → Int32) (c_sim : jT11) (c_tenant : Nat → Int32) (c_rows : Nat → Int64) : Option (Int32 × jT11 × (Nat → Int32) × (Nat → Int64)) :=
  nmV ((((3 : Int32) * i1) + (2 : Int32))) (fun i2_1 =>
  rdA 24 c_tenant i2_1 (fun v_2 =>
  fX8_wagesOf_19 i1 c_tenants c_room c_events c_gone c_sights c_event c_sight jF c_sim c_tenant c_rows i2_1 v_2 (0 : Int32) (0 : Int32)))
noncomputable def fX8_sortOf_46 (i1 : Int32) (c_tenants : Int32) (c_room : Int32) (c_events : Int32) (c_gone : Int32) (c_sights : Int32) (c_event : Nat → Int32) (c_sight : Nat → Int32) (q_14 : jT11 → (Nat → Int32) → Int32 → Int32 → Int32 → (Option (Int32 × jT11 × (Nat → Int32)))) (c_sim : jT11) (c_tenant : Nat → Int32) (i2 : Int32) (i4 : Int32) (t0 : Int32) (t1 : Int32) : Option (Int32 × jT11 × (Nat → Int32)) :=
  nmV ((t1 ||| t0)) (fun i3_6 =>
  nmV (i4 + (1 : Int32)) (fun i4_7 =>
  q_14 c_sim c_tenant i2 i3_6 i4_7))
noncomputable def bX8_sortOf_14 (i1 : Int32) (c_tenants : Int32) (c_room : Int32) (c_events : Int32) (c_gone : Int32) (c_sights : Int32) (c_event : Nat → Int32) (c_sight : Nat → Int32)  (self : jT11 → (Nat → Int32) → Int32 → Int32 → Int32 → (Option (Int32 × jT11 × (Nat → Int32)))) (c_sim : jT11) (c_tenant : Nat → Int32) (i2 : Int32) (i3 : Int32) (i4 : Int32) : Option (Int32 × jT11 × (Nat → Int32)) :=
  if (4 : Int32) ≤ i4 then (
  wrI 24 c_tenant ((3 : Int32) * i1) i2 (fun c_tenant_2 =>
  some (i3, c_sim, c_tenant_2)))
  else (
  wrI 24 c_tenant ((3 : Int32) * i1) i4 (fun c_tenant_3 =>
  bd2 (fX8_isSeen c_tenants c_room c_events c_gone c_sights c_tenant_3 c_event c_sight c_sim) (fun r_4 c_sim_5 =>
  if r_4 = (0 : Int32) then (
  fX8_sortOf_46 i1 c_tenants c_room c_events c_gone c_sights c_event c_sight self c_sim_5 c_tenant_3 i2 i4 (0 : Int32) i3)
  else (
  fX8_sortOf_46 i1 c_tenants c_room c_events c_gone c_sights c_event c_sight self c_sim_5 c_tenant_3 i2 i4 ((1 : Int32) <<< (i4 &&& (31 : Int32))) i3))))
noncomputable def fX8_sortOf_14 (i1 : Int32) (c_tenants : Int32) (c_room : Int32) (c_events : Int32) (c_gone : Int32) (c_sights : Int32) (c_event : Nat → Int32) (c_sight : Nat → Int32)  (n : Nat) : jT11 → (Nat → Int32) → Int32 → Int32 → Int32 → (Option (Int32 × jT11 × (Nat → Int32))) := lpN (fun _ _ _ _ _ => none) (bX8_sortOf_14 i1 c_tenants c_room c_events c_gone c_sights c_event c_sight ) n
noncomputable def fX8_sortOf (i1 : Int32) (c_tenants : Int32) (c_room : Int32) (c_events : Int32) (c_gone : Int32) (c_sights : Int32) (c_event : Nat → Int32) (c_sight : Nat → Int32) (c_sim : jT11) (c_tenant : Nat → Int32) : Option (Int32 × jT11 × (Nat → Int32)) :=
  rdA 24 c_tenant ((3 : Int32) * i1) (fun v_1 =>
  fX8_sortOf_14 i1 c_tenants c_room c_events c_gone c_sights c_event c_sight jF c_sim c_tenant v_1 (0 : Int32) (0 : Int32))
noncomputable def fX8_wasOf (i1 : Int32) (i2 : Int32) (c_tenants : Int32) (c_room : Int32) (c_events : Int32) (c_gone : Int32) (c_sights : Int32) (c_event : Nat → Int32) (c_sight : Nat → Int32) (c_sim : jT11) (c_tenant : Nat → Int32) (c_rows : Nat → Int64) : Option (Int32 × jT11 × (Nat → Int32) × (Nat → Int64)) :=
  if i2 = (0 : Int32) then (
  bd4 (fX8_wagesOf i1 c_tenants c_room c_events c_gone c_sights c_event c_sight c_sim c_tenant c_rows) (fun r_4 c_sim_5 c_tenant_6 c_rows_7 =>
  some (r_4, c_sim_5, c_tenant_6, c_rows_7)))
  else (
  bd3 (fX8_sortOf i1 c_tenants c_room c_events c_gone c_sights c_event c_sight c_sim c_tenant) (fun r_1 c_sim_2 c_tenant_3 =>
  some (r_1, c_sim_2, c_tenant_3, c_rows)))
noncomputable def fX8_was (i1 : Int32) (i2 : Int32) (c_typed : Int32) (c_room : Int32) (c_events : Int32) (c_gone : Int32) (c_sights : Int32) (c_bytes : Nat → Int32) (c_event : Nat → Int32) (c_sight : Nat → Int32) (c_tenants : Int32) (c_sim : jT11) (c_tenant : Nat → Int32) (c_rows : Nat → Int64) : Option (Int32 × Int32 × jT11 × (Nat → Int32) × (Nat → Int64)) :=
  bd3 (fX8_find c_typed c_room c_events c_gone c_bytes c_event c_tenants c_sim c_tenant) (fun c_tenants_1 c_sim_2 c_tenant_3 =>
  bd1 (fX8_isTenant i1 c_tenants_1) (fun r_4 =>
  if r_4 = (0 : Int32) then (
  some ((-2 : Int32), c_tenants_1, c_sim_2, c_tenant_3, c_rows))
  else (
  bd1 (fX8_isTwo i2) (fun r_5 =>
  if r_5 = (0 : Int32) then (
  some ((-2 : Int32), c_tenants_1, c_sim_2, c_tenant_3, c_rows))
  else (
  bd4 (fX8_wasOf i1 i2 c_tenants_1 c_room c_events c_gone c_sights c_event c_sight c_sim_2 c_tenant_3 c_rows) (fun r_6 c_sim_7 c_tenant_8 c_rows_9 =>
  some (r_6, c_tenants_1, c_sim_7, c_tenant_8, c_rows_9)))))))
noncomputable def fX8_alike_78 (i1 : Int32) (i2 : Int32) (c_rows : Nat → Int64) (q_5 : Int32 → Int32 → Option (Int32)) (q_18 : Int32 → Int32 → Int32 → Int32 → Option (Int32)) (i3 : Int32) (i4 : Int32) (i6 : Int32) (t0 : Int32) (t1 : Int32) : Option (Int32) :=
  nmV ((t1 + t0)) (fun i5_4 =>
  nmV (i6 + (1 : Int32)) (fun i6_5 =>
  q_18 i3 i4 i5_4 i6_5))
noncomputable def fX8_alike_77 (i1 : Int32) (i2 : Int32) (c_rows : Nat → Int64) (q_5 : Int32 → Int32 → Option (Int32)) (q_18 : Int32 → Int32 → Int32 → Int32 → Option (Int32)) (i3 : Int32) (i4 : Int32) (i6 : Int32) (t0 : Int32) : Option (Int32) :=
  fX8_alike_78 i1 i2 c_rows q_5 q_18 i3 i4 i6 (0 : Int32) t0
noncomputable def bX8_alike_18 (i1 : Int32) (i2 : Int32) (c_rows : Nat → Int64) (q_5 : Int32 → Int32 → Option (Int32)) (self : Int32 → Int32 → Int32 → Int32 → Option (Int32)) (i3 : Int32) (i4 : Int32) (i5 : Int32) (i6 : Int32) : Option (Int32) :=
  if (10 : Int32) ≤ i6 then (
  bd1 (fX8_greater i5 i3) (fun r_1 =>
  nmV (i4 + (1 : Int32)) (fun i4_2 =>
  q_5 r_1 i4_2)))
  else (
  bd1 (fX8_isIn i1 i4) (fun r_3 =>
  if r_3 = (0 : Int32) then (
  fX8_alike_77 i1 i2 c_rows q_5 self i3 i4 i6 i5)
  else (
  bd1 (fX8_isIn i1 i6) (fun r_6 =>
  if r_6 = (0 : Int32) then (
  fX8_alike_77 i1 i2 c_rows q_5 self i3 i4 i6 i5)
  else (
  rdA 240 c_rows (((24 : Int32) * i4) + i2) (fun v_7 =>
  rdA 240 c_rows (((24 : Int32) * i6) + i2) (fun v_8 =>
  if (lg_cmp v_7 v_8) = (0 : Int32) then (
  fX8_alike_78 i1 i2 c_rows q_5 self i3 i4 i6 (1 : Int32) i5)
  else (
  fX8_alike_77 i1 i2 c_rows q_5 self i3 i4 i6 i5))))))))
noncomputable def fX8_alike_18 (i1 : Int32) (i2 : Int32) (c_rows : Nat → Int64) (q_5 : Int32 → Int32 → Option (Int32)) (n : Nat) : Int32 → Int32 → Int32 → Int32 → Option (Int32) := lpN (fun _ _ _ _ => none) (bX8_alike_18 i1 i2 c_rows q_5) n
noncomputable def bX8_alike_5 (i1 : Int32) (i2 : Int32) (c_rows : Nat → Int64)  (self : Int32 → Int32 → Option (Int32)) (i3 : Int32) (i4 : Int32) : Option (Int32) :=
  if (10 : Int32) ≤ i4 then (
  some (i3))
  else (
  fX8_alike_18 i1 i2 c_rows self jF i3 i4 (0 : Int32) (0 : Int32))
noncomputable def fX8_alike_5 (i1 : Int32) (i2 : Int32) (c_rows : Nat → Int64)  (n : Nat) : Int32 → Int32 → Option (Int32) := lpN (fun _ _ => none) (bX8_alike_5 i1 i2 c_rows ) n
noncomputable def fX8_alike (i1 : Int32) (i2 : Int32) (c_rows : Nat → Int64) : Option (Int32) :=
  fX8_alike_5 i1 i2 c_rows jF (0 : Int32) (0 : Int32)
noncomputable def fX8_askOf_40 (i1 : Int32) (c_tenants : Int32) (c_room : Int32) (c_events : Int32) (c_gone : Int32) (c_sights : Int32) (c_event : Nat → Int32) (c_sight : Nat → Int32) (q_11 : jT11 → (Nat → Int32) → (Nat → Int64) → Int32 → Int32 → Int32 → (Option (Int32 × jT11 × (Nat → Int32) × (Nat → Int64)))) (c_sim : jT11) (c_tenant : Nat → Int32) (c_rows : Nat → Int64) (i2 : Int32) (i4 : Int32) (t0 : Int32) : Option (Int32 × jT11 × (Nat → Int32) × (Nat → Int64)) :=
  nmV (i4 + (1 : Int32)) (fun i4_7 =>
  q_11 c_sim c_tenant c_rows i2 t0 i4_7)
noncomputable def bX8_askOf_11 (i1 : Int32) (c_tenants : Int32) (c_room : Int32) (c_events : Int32) (c_gone : Int32) (c_sights : Int32) (c_event : Nat → Int32) (c_sight : Nat → Int32)  (self : jT11 → (Nat → Int32) → (Nat → Int64) → Int32 → Int32 → Int32 → (Option (Int32 × jT11 × (Nat → Int32) × (Nat → Int64)))) (c_sim : jT11) (c_tenant : Nat → Int32) (c_rows : Nat → Int64) (i2 : Int32) (i3 : Int32) (i4 : Int32) : Option (Int32 × jT11 × (Nat → Int32) × (Nat → Int64)) :=
  if (24 : Int32) ≤ i4 then (
  some (i3, c_sim, c_tenant, c_rows))
  else (
  bd1 (fX8_alike i2 i4 c_rows) (fun r_5 =>
  bd1 (fX8_alike i2 i3 c_rows) (fun r_6 =>
  if r_6 ≤ r_5 then (
  fX8_askOf_40 i1 c_tenants c_room c_events c_gone c_sights c_event c_sight self c_sim c_tenant c_rows i2 i4 i3)
  else (
  fX8_askOf_40 i1 c_tenants c_room c_events c_gone c_sights c_event c_sight self c_sim c_tenant c_rows i2 i4 i4))))
noncomputable def fX8_askOf_11 (i1 : Int32) (c_tenants : Int32) (c_room : Int32) (c_events : Int32) (c_gone : Int32) (c_sights : Int32) (c_event : Nat → Int32) (c_sight : Nat → Int32)  (n : Nat) : jT11 → (Nat → Int32) → (Nat → Int64) → Int32 → Int32 → Int32 → (Option (Int32 × jT11 × (Nat → Int32) × (Nat → Int64))) := lpN (fun _ _ _ _ _ _ => none) (bX8_askOf_11 i1 c_tenants c_room c_events c_gone c_sights c_event c_sight ) n
noncomputable def fX8_askOf (i1 : Int32) (c_tenants : Int32) (c_room : Int32) (c_events : Int32) (c_gone : Int32) (c_sights : Int32) (c_event : Nat → Int32) (c_sight : Nat → Int32) (c_sim : jT11) (c_tenant : Nat → Int32) (c_rows : Nat → Int64) : Option (Int32 × jT11 × (Nat → Int32) × (Nat → Int64)) :=
  bd4 (fX8_wagesOf i1 c_tenants c_room c_events c_gone c_sights c_event c_sight c_sim c_tenant c_rows) (fun r_1 c_sim_2 c_tenant_3 c_rows_4 =>
  fX8_askOf_11 i1 c_tenants c_room c_events c_gone c_sights c_event c_sight jF c_sim_2 c_tenant_3 c_rows_4 r_1 (0 : Int32) (1 : Int32))
noncomputable def fX8_ask (i1 : Int32) (c_typed : Int32) (c_room : Int32) (c_events : Int32) (c_gone : Int32) (c_sights : Int32) (c_bytes : Nat → Int32) (c_event : Nat → Int32) (c_sight : Nat → Int32) (c_tenants : Int32) (c_sim : jT11) (c_tenant : Nat → Int32) (c_rows : Nat → Int64) : Option (Int32 × Int32 × jT11 × (Nat → Int32) × (Nat → Int64)) :=
  bd3 (fX8_find c_typed c_room c_events c_gone c_bytes c_event c_tenants c_sim c_tenant) (fun c_tenants_1 c_sim_2 c_tenant_3 =>
  bd1 (fX8_isTenant i1 c_tenants_1) (fun r_4 =>
  if r_4 = (0 : Int32) then (
  some ((-2 : Int32), c_tenants_1, c_sim_2, c_tenant_3, c_rows))
  else (
  bd4 (fX8_askOf i1 c_tenants_1 c_room c_events c_gone c_sights c_event c_sight c_sim_2 c_tenant_3 c_rows) (fun r_5 c_sim_6 c_tenant_7 c_rows_8 =>
  some (r_5, c_tenants_1, c_sim_6, c_tenant_7, c_rows_8)))))
noncomputable def fX8_chanceOf_78 (i1 : Int32) (i2 : Int32) (i3 : Int32) (c_tenants : Int32) (c_room : Int32) (c_events : Int32) (c_tenant : Nat → Int32) (c_event : Nat → Int32) (q_6 : Int32 → jT11 → Int64 → Int32 → (Option (Int64 × Int32 × jT11))) (q_47 : Int32 → jT11 → Int64 → Int32 → Int64 → Int32 → (Option (Int64 × Int32 × jT11))) (c_gone : Int32) (c_sim : jT11) (l4 : Int64) (i6 : Int32) (i9 : Int32) (t0 : Int64) (t1 : Int64) : Option (Int64 × Int32 × jT11) :=
  nmV ((t1 * t0)) (fun l7_7 =>
  nmV (i9 + (1 : Int32)) (fun i9_8 =>
  q_47 c_gone c_sim l4 i6 l7_7 i9_8))
noncomputable def bX8_chanceOf_47 (i1 : Int32) (i2 : Int32) (i3 : Int32) (c_tenants : Int32) (c_room : Int32) (c_events : Int32) (c_tenant : Nat → Int32) (c_event : Nat → Int32) (q_6 : Int32 → jT11 → Int64 → Int32 → (Option (Int64 × Int32 × jT11))) (self : Int32 → jT11 → Int64 → Int32 → Int64 → Int32 → (Option (Int64 × Int32 × jT11))) (c_gone : Int32) (c_sim : jT11) (l4 : Int64) (i6 : Int32) (l7 : Int64) (i9 : Int32) : Option (Int64 × Int32 × jT11) :=
  if c_events ≤ i9 then (
  nmV ((l4 + l7)) (fun l4_4 =>
  nmV (i6 + (1 : Int32)) (fun i6_5 =>
  q_6 c_gone c_sim l4_4 i6_5)))
  else (
  bd1 (fX8_isIn i6 i9) (fun r_6 =>
  if r_6 = (0 : Int32) then (
  fX8_chanceOf_78 i1 i2 i3 c_tenants c_room c_events c_tenant c_event q_6 self c_gone c_sim l4 i6 i9 (Int32.toInt64 i1) l7)
  else (
  fX8_chanceOf_78 i1 i2 i3 c_tenants c_room c_events c_tenant c_event q_6 self c_gone c_sim l4 i6 i9 (Int32.toInt64 ((16 : Int32) - i1)) l7)))
noncomputable def fX8_chanceOf_47 (i1 : Int32) (i2 : Int32) (i3 : Int32) (c_tenants : Int32) (c_room : Int32) (c_events : Int32) (c_tenant : Nat → Int32) (c_event : Nat → Int32) (q_6 : Int32 → jT11 → Int64 → Int32 → (Option (Int64 × Int32 × jT11))) (n : Nat) : Int32 → jT11 → Int64 → Int32 → Int64 → Int32 → (Option (Int64 × Int32 × jT11)) := lpN (fun _ _ _ _ _ _ => none) (bX8_chanceOf_47 i1 i2 i3 c_tenants c_room c_events c_tenant c_event q_6) n
noncomputable def fX8_chanceOf_42 (i1 : Int32) (i2 : Int32) (i3 : Int32) (c_tenants : Int32) (c_room : Int32) (c_events : Int32) (c_tenant : Nat → Int32) (c_event : Nat → Int32) (q_6 : Int32 → jT11 → Int64 → Int32 → (Option (Int64 × Int32 × jT11))) (c_gone : Int32) (c_sim : jT11) (l4 : Int64) (i6 : Int32) (t0 : Int64) : Option (Int64 × Int32 × jT11) :=
  fX8_chanceOf_47 i1 i2 i3 c_tenants c_room c_events c_tenant c_event q_6 jF c_gone c_sim l4 i6 t0 (0 : Int32)
noncomputable def bX8_chanceOf_6 (i1 : Int32) (i2 : Int32) (i3 : Int32) (c_tenants : Int32) (c_room : Int32) (c_events : Int32) (c_tenant : Nat → Int32) (c_event : Nat → Int32)  (self : Int32 → jT11 → Int64 → Int32 → (Option (Int64 × Int32 × jT11))) (c_gone : Int32) (c_sim : jT11) (l4 : Int64) (i6 : Int32) : Option (Int64 × Int32 × jT11) :=
  if ((1 : Int32) <<< (c_events &&& (31 : Int32))) ≤ i6 then (
  bd1 (fX8_part l4 ((1 : Int64) <<< (Int32.toInt64 ((4 : Int32) * c_events) &&& (63 : Int64))) i3) (fun r_1 =>
  some (r_1, (0 : Int32), c_sim)))
  else (
  bd1 (fX8_lives c_tenants c_room c_events i6 c_tenant c_event c_sim) (fun c_sim_2 =>
  rdA 8 c_sim_2.2.2.2.2.1 i2 (fun v_3 =>
  if v_3 = (-1 : Int32) then (
  fX8_chanceOf_42 i1 i2 i3 c_tenants c_room c_events c_tenant c_event self i6 c_sim_2 l4 i6 (0 : Int64))
  else (
  fX8_chanceOf_42 i1 i2 i3 c_tenants c_room c_events c_tenant c_event self i6 c_sim_2 l4 i6 (1 : Int64)))))
noncomputable def fX8_chanceOf_6 (i1 : Int32) (i2 : Int32) (i3 : Int32) (c_tenants : Int32) (c_room : Int32) (c_events : Int32) (c_tenant : Nat → Int32) (c_event : Nat → Int32)  (n : Nat) : Int32 → jT11 → Int64 → Int32 → (Option (Int64 × Int32 × jT11)) := lpN (fun _ _ _ _ => none) (bX8_chanceOf_6 i1 i2 i3 c_tenants c_room c_events c_tenant c_event ) n
noncomputable def fX8_chanceOf (i1 : Int32) (i2 : Int32) (i3 : Int32) (c_tenants : Int32) (c_room : Int32) (c_events : Int32) (c_tenant : Nat → Int32) (c_event : Nat → Int32) (c_gone : Int32) (c_sim : jT11) : Option (Int64 × Int32 × jT11) :=
  fX8_chanceOf_6 i1 i2 i3 c_tenants c_room c_events c_tenant c_event jF c_gone c_sim (0 : Int64) (0 : Int32)
noncomputable def fX8_chance_41 (i1 : Int32) (i2 : Int32) (i3 : Int32) (c_typed : Int32) (c_room : Int32) (c_events : Int32) (c_bytes : Nat → Int32) (c_event : Nat → Int32)  (c_tenants : Int32) (c_gone : Int32) (c_sim : jT11) (c_tenant : Nat → Int32) : Option (Int64 × Int32 × Int32 × jT11 × (Nat → Int32)) :=
  bd1 (fX8_no (-2 : Int32)) (fun r_5 =>
  some (r_5, c_tenants, c_gone, c_sim, c_tenant))
noncomputable def fX8_chance (i1 : Int32) (i2 : Int32) (i3 : Int32) (c_typed : Int32) (c_room : Int32) (c_events : Int32) (c_bytes : Nat → Int32) (c_event : Nat → Int32) (c_tenants : Int32) (c_gone : Int32) (c_sim : jT11) (c_tenant : Nat → Int32) : Option (Int64 × Int32 × Int32 × jT11 × (Nat → Int32)) :=
  bd3 (fX8_find c_typed c_room c_events c_gone c_bytes c_event c_tenants c_sim c_tenant) (fun c_tenants_1 c_sim_2 c_tenant_3 =>
  bd1 (fX8_in (Int32.toInt64 i1) (0 : Int64) (16 : Int64)) (fun r_4 =>
  if r_4 = (0 : Int32) then (
  fX8_chance_41 i1 i2 i3 c_typed c_room c_events c_bytes c_event c_tenants_1 c_gone c_sim_2 c_tenant_3)
  else (
  bd1 (fX8_isTenant i2 c_tenants_1) (fun r_6 =>
  if r_6 = (0 : Int32) then (
  fX8_chance_41 i1 i2 i3 c_typed c_room c_events c_bytes c_event c_tenants_1 c_gone c_sim_2 c_tenant_3)
  else (
  bd1 (fX8_isTwo i3) (fun r_7 =>
  if r_7 = (0 : Int32) then (
  fX8_chance_41 i1 i2 i3 c_typed c_room c_events c_bytes c_event c_tenants_1 c_gone c_sim_2 c_tenant_3)
  else (
  bd3 (fX8_chanceOf i1 i2 i3 c_tenants_1 c_room c_events c_tenant_3 c_event c_gone c_sim_2) (fun r_8 c_gone_9 c_sim_10 =>
  some (r_8, c_tenants_1, c_gone_9, c_sim_10, c_tenant_3)))))))))
noncomputable def fX8_lot (i1 : Int32) (c_drawn : Int32) : Option (Int32 × Int32) :=
  nmV ((((1103515245 : Int32) * c_drawn) + (12345 : Int32))) (fun c_drawn_1 =>
  ckZ i1 (
  some (((UInt32.toInt32 (Int32.toUInt32 c_drawn_1 >>> (Int32.toUInt32 (16 : Int32) &&& Int32.toUInt32 31))) - (UInt32.toInt32 (Int32.toUInt32 c_drawn_1 >>> (Int32.toUInt32 (16 : Int32) &&& Int32.toUInt32 31))) / i1 * i1), c_drawn_1)))
noncomputable def fX8_housesOf_92 (i1 : Int32) (i2 : Int32) (i3 : Int32) (c_typed : Int32) (c_room : Int32) (c_events : Int32) (c_gone : Int32) (c_bytes : Nat → Int32) (c_event : Nat → Int32)  (c_tenants : Int32) (c_sim : jT11) (c_drawn : Int32) (c_tenant : Nat → Int32) (t0 : Int32) : Option (Int32 × Int32 × jT11 × Int32 × (Nat → Int32)) :=
  bd3 (fX8_reads c_typed c_bytes c_tenants c_tenant) (fun r_3 c_tenants_4 c_tenant_5 =>
  some (t0, c_tenants_4, c_sim, c_drawn, c_tenant_5))
noncomputable def bX8_housesOf_13 (i1 : Int32) (i2 : Int32) (i3 : Int32) (c_typed : Int32) (c_room : Int32) (c_events : Int32) (c_gone : Int32) (c_bytes : Nat → Int32) (c_event : Nat → Int32)  (self : Int32 → jT11 → Int32 → (Nat → Int32) → Int32 → (Option (Int32 × Int32 × jT11 × Int32 × (Nat → Int32)))) (c_tenants : Int32) (c_sim : jT11) (c_drawn : Int32) (c_tenant : Nat → Int32) (i4 : Int32) : Option (Int32 × Int32 × jT11 × Int32 × (Nat → Int32)) :=
  if i2 ≤ i4 then (
  bd1 (fX8_lives c_tenants c_room c_events c_gone c_tenant c_event c_sim) (fun c_sim_1 =>
  if i3 = (0 : Int32) then (
  bd1 (fX8_manySettled c_tenants c_sim_1.2.2.2.2.1) (fun r_6 =>
  fX8_housesOf_92 i1 i2 i3 c_typed c_room c_events c_gone c_bytes c_event c_tenants c_sim_1 c_drawn c_tenant r_6))
  else (
  bd1 (fX8_allFell c_tenants c_sim_1.2.2.2.2.2.1) (fun r_2 =>
  fX8_housesOf_92 i1 i2 i3 c_typed c_room c_events c_gone c_bytes c_event c_tenants c_sim_1 c_drawn c_tenant r_2))))
  else (
  bd2 (fX8_lot (4 : Int32) c_drawn) (fun r_7 c_drawn_8 =>
  wrI 24 c_tenant ((3 : Int32) * i4) r_7 (fun c_tenant_9 =>
  bd2 (fX8_lot (10 : Int32) c_drawn_8) (fun r_10 c_drawn_11 =>
  wrI 24 c_tenant_9 (((3 : Int32) * i4) + (1 : Int32)) r_10 (fun c_tenant_12 =>
  bd2 (fX8_lot (10 : Int32) c_drawn_11) (fun r_13 c_drawn_14 =>
  wrI 24 c_tenant_12 (((3 : Int32) * i4) + (2 : Int32)) r_13 (fun c_tenant_15 =>
  nmV (i4 + (1 : Int32)) (fun i4_16 =>
  self c_tenants c_sim c_drawn_14 c_tenant_15 i4_16))))))))
noncomputable def fX8_housesOf_13 (i1 : Int32) (i2 : Int32) (i3 : Int32) (c_typed : Int32) (c_room : Int32) (c_events : Int32) (c_gone : Int32) (c_bytes : Nat → Int32) (c_event : Nat → Int32)  (n : Nat) : Int32 → jT11 → Int32 → (Nat → Int32) → Int32 → (Option (Int32 × Int32 × jT11 × Int32 × (Nat → Int32))) := lpN (fun _ _ _ _ _ => none) (bX8_housesOf_13 i1 i2 i3 c_typed c_room c_events c_gone c_bytes c_event ) n
noncomputable def fX8_housesOf (i1 : Int32) (i2 : Int32) (i3 : Int32) (c_typed : Int32) (c_room : Int32) (c_events : Int32) (c_gone : Int32) (c_bytes : Nat → Int32) (c_event : Nat → Int32) (c_tenants : Int32) (c_sim : jT11) (c_drawn : Int32) (c_tenant : Nat → Int32) : Option (Int32 × Int32 × jT11 × Int32 × (Nat → Int32)) :=
  fX8_housesOf_13 i1 i2 i3 c_typed c_room c_events c_gone c_bytes c_event jF i2 c_sim i1 c_tenant (0 : Int32)
noncomputable def fX8_houses (i1 : Int32) (i2 : Int32) (i3 : Int32) (c_typed : Int32) (c_room : Int32) (c_events : Int32) (c_gone : Int32) (c_bytes : Nat → Int32) (c_event : Nat → Int32) (c_tenants : Int32) (c_sim : jT11) (c_drawn : Int32) (c_tenant : Nat → Int32) : Option (Int32 × Int32 × jT11 × Int32 × (Nat → Int32)) :=
  bd3 (fX8_find c_typed c_room c_events c_gone c_bytes c_event c_tenants c_sim c_tenant) (fun c_tenants_1 c_sim_2 c_tenant_3 =>
  bd1 (fX8_in (Int32.toInt64 i2) (0 : Int64) (8 : Int64)) (fun r_4 =>
  if r_4 = (0 : Int32) then (
  some ((-2 : Int32), c_tenants_1, c_sim_2, c_drawn, c_tenant_3))
  else (
  bd1 (fX8_isTwo i3) (fun r_5 =>
  if r_5 = (0 : Int32) then (
  some ((-2 : Int32), c_tenants_1, c_sim_2, c_drawn, c_tenant_3))
  else (
  bd5 (fX8_housesOf i1 i2 i3 c_typed c_room c_events c_gone c_bytes c_event c_tenants_1 c_sim_2 c_drawn c_tenant_3) (fun r_6 c_tenants_7 c_sim_8 c_drawn_9 c_tenant_10 =>
  some (r_6, c_tenants_7, c_sim_8, c_drawn_9, c_tenant_10)))))))
noncomputable def bX8_write_52 (i1 : Int32) (i2 : Int32) (c_typed : Int32) (c_room : Int32) (c_events : Int32) (c_gone : Int32) (c_forms : Nat → Int32) (c_sizes : Nat → Int32) (c_bytes : Nat → Int32) (c_event : Nat → Int32)  (self : Int32 → Int32 → jT11 → (Nat → Int32) → (Nat → Int32) → Int32 → Int32 → (Option (Int32 × Int32 × Int32 × jT11 × (Nat → Int32) × (Nat → Int32)))) (c_latest : Int32) (c_tenants : Int32) (c_sim : jT11) (c_items : Nat → Int32) (c_tenant : Nat → Int32) (i3 : Int32) (i4 : Int32) : Option (Int32 × Int32 × Int32 × jT11 × (Nat → Int32) × (Nat → Int32)) :=
  if i3 ≤ i4 then (
  some (i3, c_latest, c_tenants, c_sim, c_items, c_tenant))
  else (
  rdA 4 c_forms i2 (fun v_9 =>
  rdA 192 c_sim.2.2.2.2.2.2.2.2.2.1 (((8 : Int32) * i4) + i1) (fun v_10 =>
  bd1 (fX8_cut v_9 v_10) (fun r_11 =>
  wrI 240 c_items (((60 : Int32) * i2) + i4) r_11 (fun c_items_12 =>
  nmV (i4 + (1 : Int32)) (fun i4_13 =>
  self c_latest c_tenants c_sim c_items_12 c_tenant i3 i4_13))))))
noncomputable def fX8_write_52 (i1 : Int32) (i2 : Int32) (c_typed : Int32) (c_room : Int32) (c_events : Int32) (c_gone : Int32) (c_forms : Nat → Int32) (c_sizes : Nat → Int32) (c_bytes : Nat → Int32) (c_event : Nat → Int32)  (n : Nat) : Int32 → Int32 → jT11 → (Nat → Int32) → (Nat → Int32) → Int32 → Int32 → (Option (Int32 × Int32 × Int32 × jT11 × (Nat → Int32) × (Nat → Int32))) := lpN (fun _ _ _ _ _ _ _ => none) (bX8_write_52 i1 i2 c_typed c_room c_events c_gone c_forms c_sizes c_bytes c_event ) n
noncomputable def fX8_write (i1 : Int32) (i2 : Int32) (c_typed : Int32) (c_room : Int32) (c_events : Int32) (c_gone : Int32) (c_forms : Nat → Int32) (c_sizes : Nat → Int32) (c_bytes : Nat → Int32) (c_event : Nat → Int32) (c_latest : Int32) (c_tenants : Int32) (c_sim : jT11) (c_items : Nat → Int32) (c_tenant : Nat → Int32) : Option (Int32 × Int32 × Int32 × jT11 × (Nat → Int32) × (Nat → Int32)) :=
  bd3 (fX8_find c_typed c_room c_events c_gone c_bytes c_event c_tenants c_sim c_tenant) (fun c_tenants_1 c_sim_2 c_tenant_3 =>
  bd1 (fX8_isTenant i1 c_tenants_1) (fun r_4 =>
  if r_4 = (0 : Int32) then (
  some ((-2 : Int32), c_latest, c_tenants_1, c_sim_2, c_items, c_tenant_3))
  else (
  bd1 (fX8_isSheet i2) (fun r_5 =>
  if r_5 = (0 : Int32) then (
  some ((-2 : Int32), c_latest, c_tenants_1, c_sim_2, c_items, c_tenant_3))
  else (
  rdA 4 c_forms i2 (fun v_6 =>
  if (0 : Int32) ≤ v_6 then (
  rdA 4 c_sizes i2 (fun v_7 =>
  bd1 (fX8_lesser v_7 (24 : Int32)) (fun r_8 =>
  fX8_write_52 i1 i2 c_typed c_room c_events c_gone c_forms c_sizes c_bytes c_event jF c_latest c_tenants_1 c_sim_2 c_items c_tenant_3 r_8 (0 : Int32))))
  else (
  bd2 (fX8_finds (1 : Int32) c_latest) (fun r_14 c_latest_15 =>
  some (r_14, c_latest_15, c_tenants_1, c_sim_2, c_items, c_tenant_3)))))))))
noncomputable def fX8_manyHoused_27 (c_tenants : Int32) (c_floor : Nat → Int32) (q_4 : Int32 → Int32 → Option (Int32)) (i2 : Int32) (t0 : Int32) (t1 : Int32) : Option (Int32) :=
  nmV ((t1 + t0)) (fun i1_2 =>
  nmV (i2 + (1 : Int32)) (fun i2_3 =>
  q_4 i1_2 i2_3))
noncomputable def bX8_manyHoused_4 (c_tenants : Int32) (c_floor : Nat → Int32)  (self : Int32 → Int32 → Option (Int32)) (i1 : Int32) (i2 : Int32) : Option (Int32) :=
  if c_tenants ≤ i2 then (
  some (i1))
  else (
  rdA 8 c_floor i2 (fun v_1 =>
  if v_1 ≤ (0 : Int32) then (
  fX8_manyHoused_27 c_tenants c_floor self i2 (0 : Int32) i1)
  else (
  fX8_manyHoused_27 c_tenants c_floor self i2 (1 : Int32) i1)))
noncomputable def fX8_manyHoused_4 (c_tenants : Int32) (c_floor : Nat → Int32)  (n : Nat) : Int32 → Int32 → Option (Int32) := lpN (fun _ _ => none) (bX8_manyHoused_4 c_tenants c_floor ) n
noncomputable def fX8_manyHoused (c_tenants : Int32) (c_floor : Nat → Int32) : Option (Int32) :=
  fX8_manyHoused_4 c_tenants c_floor jF (0 : Int32) (0 : Int32)
noncomputable def fX8_count (i1 : Int32) (c_latest : Int32) (c_typed : Int32) (c_room : Int32) (c_events : Int32) (c_gone : Int32) (c_sights : Int32) (c_bytes : Nat → Int32) (c_event : Nat → Int32) (c_tenants : Int32) (c_sim : jT11) (c_tenant : Nat → Int32) : Option (Int32 × Int32 × jT11 × (Nat → Int32)) :=
  bd3 (fX8_find c_typed c_room c_events c_gone c_bytes c_event c_tenants c_sim c_tenant) (fun c_tenants_1 c_sim_2 c_tenant_3 =>
  if i1 = (0 : Int32) then (
  some (c_tenants_1, c_tenants_1, c_sim_2, c_tenant_3))
  else (
  if i1 = (1 : Int32) then (
  some (c_typed, c_tenants_1, c_sim_2, c_tenant_3))
  else (
  if i1 = (2 : Int32) then (
  some (c_events, c_tenants_1, c_sim_2, c_tenant_3))
  else (
  if i1 = (3 : Int32) then (
  bd1 (fX8_manySettled c_tenants_1 c_sim_2.2.2.2.2.1) (fun r_4 =>
  some (r_4, c_tenants_1, c_sim_2, c_tenant_3)))
  else (
  if i1 = (4 : Int32) then (
  bd1 (fX8_allFell c_tenants_1 c_sim_2.2.2.2.2.2.1) (fun r_5 =>
  some (r_5, c_tenants_1, c_sim_2, c_tenant_3)))
  else (
  if i1 = (5 : Int32) then (
  some (c_room, c_tenants_1, c_sim_2, c_tenant_3))
  else (
  if i1 = (6 : Int32) then (
  bd1 (fX8_manyHoused c_tenants_1 c_sim_2.2.1) (fun r_6 =>
  some (r_6, c_tenants_1, c_sim_2, c_tenant_3)))
  else (
  if i1 = (7 : Int32) then (
  some (c_sights, c_tenants_1, c_sim_2, c_tenant_3))
  else (
  if i1 = (8 : Int32) then (
  some (c_latest, c_tenants_1, c_sim_2, c_tenant_3))
  else (
  some ((-2 : Int32), c_tenants_1, c_sim_2, c_tenant_3)))))))))))
noncomputable def bX8_tellsMonth_6 (l1 : Int64) (i3 : Int32) (i4 : Int32) (c_floorBy : Nat → Int32) (c_leftBy : Nat → Int32) (c_fellBy : Nat → Int32)  (self : Int64 → Int32 → Option (Int64)) (l5 : Int64) (i7 : Int32) : Option (Int64) :=
  if (4 : Int32) ≤ i7 then (
  some (l5))
  else (
  bd1 (fX8_atBy i3 i4 i7 c_floorBy c_leftBy c_fellBy) (fun r_1 =>
  nmV ((((31 : Int64) * l5) + (Int32.toInt64 r_1))) (fun l5_2 =>
  nmV (i7 + (1 : Int32)) (fun i7_3 =>
  self l5_2 i7_3))))
noncomputable def fX8_tellsMonth_6 (l1 : Int64) (i3 : Int32) (i4 : Int32) (c_floorBy : Nat → Int32) (c_leftBy : Nat → Int32) (c_fellBy : Nat → Int32)  (n : Nat) : Int64 → Int32 → Option (Int64) := lpN (fun _ _ => none) (bX8_tellsMonth_6 l1 i3 i4 c_floorBy c_leftBy c_fellBy ) n
noncomputable def fX8_tellsMonth (l1 : Int64) (i3 : Int32) (i4 : Int32) (c_floorBy : Nat → Int32) (c_leftBy : Nat → Int32) (c_fellBy : Nat → Int32) : Option (Int64) :=
  fX8_tellsMonth_6 l1 i3 i4 c_floorBy c_leftBy c_fellBy jF l1 (0 : Int32)
noncomputable def bX8_tellsTenant_147 (l1 : Int64) (i3 : Int32) (c_tenants : Int32) (c_room : Int32) (c_events : Int32) (c_sights : Int32) (c_event : Nat → Int32) (c_sight : Nat → Int32)  (self : Int32 → jT11 → (Nat → Int32) → (Nat → Int64) → Int64 → Int32 → (Option (Int64 × Int32 × jT11 × (Nat → Int32) × (Nat → Int64)))) (c_gone : Int32) (c_sim : jT11) (c_tenant : Nat → Int32) (c_rows : Nat → Int64) (l4 : Int64) (i6 : Int32) : Option (Int64 × Int32 × jT11 × (Nat → Int32) × (Nat → Int64)) :=
  if (3 : Int32) ≤ i6 then (
  bd4 (fX8_wagesOf i3 c_tenants c_room c_events c_gone c_sights c_event c_sight c_sim c_tenant c_rows) (fun r_6 c_sim_7 c_tenant_8 c_rows_9 =>
  nmV ((((31 : Int64) * l4) + (Int32.toInt64 r_6))) (fun l4_10 =>
  bd3 (fX8_sortOf i3 c_tenants c_room c_events c_gone c_sights c_event c_sight c_sim_7 c_tenant_8) (fun r_11 c_sim_12 c_tenant_13 =>
  nmV ((((31 : Int64) * l4_10) + (Int32.toInt64 r_11))) (fun l4_14 =>
  bd4 (fX8_askOf i3 c_tenants c_room c_events c_gone c_sights c_event c_sight c_sim_12 c_tenant_13 c_rows_9) (fun r_15 c_sim_16 c_tenant_17 c_rows_18 =>
  nmV ((((31 : Int64) * l4_14) + (Int32.toInt64 r_15))) (fun l4_19 =>
  bd3 (fX8_chanceOf (5 : Int32) i3 (0 : Int32) c_tenants c_room c_events c_tenant_17 c_event c_gone c_sim_16) (fun r_20 c_gone_21 c_sim_22 =>
  nmV ((((31 : Int64) * l4_19) + r_20)) (fun l4_23 =>
  bd3 (fX8_chanceOf (5 : Int32) i3 (1 : Int32) c_tenants c_room c_events c_tenant_17 c_event c_gone_21 c_sim_22) (fun r_24 c_gone_25 c_sim_26 =>
  some ((((31 : Int64) * l4_23) + r_24), c_gone_25, c_sim_26, c_tenant_17, c_rows_18)))))))))))
  else (
  bd3 (fX8_tenantBetter ((3 : Int32) * i3) (4 : Int32) i6 c_tenants c_room c_events c_gone c_event c_sim c_tenant) (fun r_27 c_sim_28 c_tenant_29 =>
  nmV ((((31 : Int64) * l4) + (Int32.toInt64 r_27))) (fun l4_30 =>
  nmV (i6 + (1 : Int32)) (fun i6_31 =>
  self c_gone c_sim_28 c_tenant_29 c_rows l4_30 i6_31))))
noncomputable def fX8_tellsTenant_147 (l1 : Int64) (i3 : Int32) (c_tenants : Int32) (c_room : Int32) (c_events : Int32) (c_sights : Int32) (c_event : Nat → Int32) (c_sight : Nat → Int32)  (n : Nat) : Int32 → jT11 → (Nat → Int32) → (Nat → Int64) → Int64 → Int32 → (Option (Int64 × Int32 × jT11 × (Nat → Int32) × (Nat → Int64))) := lpN (fun _ _ _ _ _ _ => none) (bX8_tellsTenant_147 l1 i3 c_tenants c_room c_events c_sights c_event c_sight ) n
noncomputable def bX8_tellsTenant_109 (l1 : Int64) (i3 : Int32) (c_tenants : Int32) (c_room : Int32) (c_events : Int32) (c_sights : Int32) (c_event : Nat → Int32) (c_sight : Nat → Int32)  (self : Int32 → jT11 → (Nat → Int32) → (Nat → Int64) → Int64 → Int32 → (Option (Int64 × Int32 × jT11 × (Nat → Int32) × (Nat → Int64)))) (c_gone : Int32) (c_sim : jT11) (c_tenant : Nat → Int32) (c_rows : Nat → Int64) (l4 : Int64) (i6 : Int32) : Option (Int64 × Int32 × jT11 × (Nat → Int32) × (Nat → Int64)) :=
  if (3 : Int32) ≤ i6 then (
  fX8_tellsTenant_147 l1 i3 c_tenants c_room c_events c_sights c_event c_sight jF c_gone c_sim c_tenant c_rows l4 (0 : Int32))
  else (
  bd3 (fX8_tenantBetter (((3 : Int32) * i3) + (2 : Int32)) (10 : Int32) i6 c_tenants c_room c_events c_gone c_event c_sim c_tenant) (fun r_32 c_sim_33 c_tenant_34 =>
  nmV ((((31 : Int64) * l4) + (Int32.toInt64 r_32))) (fun l4_35 =>
  nmV (i6 + (1 : Int32)) (fun i6_36 =>
  self c_gone c_sim_33 c_tenant_34 c_rows l4_35 i6_36))))
noncomputable def fX8_tellsTenant_109 (l1 : Int64) (i3 : Int32) (c_tenants : Int32) (c_room : Int32) (c_events : Int32) (c_sights : Int32) (c_event : Nat → Int32) (c_sight : Nat → Int32)  (n : Nat) : Int32 → jT11 → (Nat → Int32) → (Nat → Int64) → Int64 → Int32 → (Option (Int64 × Int32 × jT11 × (Nat → Int32) × (Nat → Int64))) := lpN (fun _ _ _ _ _ _ => none) (bX8_tellsTenant_109 l1 i3 c_tenants c_room c_events c_sights c_event c_sight ) n
noncomputable def bX8_tellsTenant_77 (l1 : Int64) (i3 : Int32) (c_tenants : Int32) (c_room : Int32) (c_events : Int32) (c_sights : Int32) (c_event : Nat → Int32) (c_sight : Nat → Int32)  (self : Int32 → jT11 → (Nat → Int32) → (Nat → Int64) → Int64 → Int32 → (Option (Int64 × Int32 × jT11 × (Nat → Int32) × (Nat → Int64)))) (c_gone : Int32) (c_sim : jT11) (c_tenant : Nat → Int32) (c_rows : Nat → Int64) (l4 : Int64) (i6 : Int32) : Option (Int64 × Int32 × jT11 × (Nat → Int32) × (Nat → Int64)) :=
  if (4 : Int32) ≤ i6 then (
  fX8_tellsTenant_109 l1 i3 c_tenants c_room c_events c_sights c_event c_sight jF c_gone c_sim c_tenant c_rows l4 (0 : Int32))
  else (
  bd1 (fX8_endsBy i3 i6 c_sim.2.2.2.2.1 c_sim.2.2.2.2.2.1 c_sim.2.2.2.2.2.2.1 c_sim.2.2.2.2.2.2.2.1) (fun r_37 =>
  nmV ((((31 : Int64) * l4) + (Int32.toInt64 r_37))) (fun l4_38 =>
  nmV (i6 + (1 : Int32)) (fun i6_39 =>
  self c_gone c_sim c_tenant c_rows l4_38 i6_39))))
noncomputable def fX8_tellsTenant_77 (l1 : Int64) (i3 : Int32) (c_tenants : Int32) (c_room : Int32) (c_events : Int32) (c_sights : Int32) (c_event : Nat → Int32) (c_sight : Nat → Int32)  (n : Nat) : Int32 → jT11 → (Nat → Int32) → (Nat → Int64) → Int64 → Int32 → (Option (Int64 × Int32 × jT11 × (Nat → Int32) × (Nat → Int64))) := lpN (fun _ _ _ _ _ _ => none) (bX8_tellsTenant_77 l1 i3 c_tenants c_room c_events c_sights c_event c_sight ) n
noncomputable def bX8_tellsTenant_10 (l1 : Int64) (i3 : Int32) (c_tenants : Int32) (c_room : Int32) (c_events : Int32) (c_sights : Int32) (c_event : Nat → Int32) (c_sight : Nat → Int32)  (self : Int32 → jT11 → (Nat → Int32) → (Nat → Int64) → Int64 → Int32 → (Option (Int64 × Int32 × jT11 × (Nat → Int32) × (Nat → Int64)))) (c_gone : Int32) (c_sim : jT11) (c_tenant : Nat → Int32) (c_rows : Nat → Int64) (l4 : Int64) (i6 : Int32) : Option (Int64 × Int32 × jT11 × (Nat → Int32) × (Nat → Int64)) :=
  if (3 : Int32) ≤ i6 then (
  bd1 (fX8_tellsMonth l4 (0 : Int32) i3 c_sim.2.2.2.2.2.2.2.2.2.1 c_sim.2.2.2.2.2.2.2.2.2.2.1 c_sim.2.2.2.2.2.2.2.2.2.2.2) (fun r_2 =>
  bd1 (fX8_tellsMonth r_2 (6 : Int32) i3 c_sim.2.2.2.2.2.2.2.2.2.1 c_sim.2.2.2.2.2.2.2.2.2.2.1 c_sim.2.2.2.2.2.2.2.2.2.2.2) (fun r_3 =>
  bd1 (fX8_tellsMonth r_3 (13 : Int32) i3 c_sim.2.2.2.2.2.2.2.2.2.1 c_sim.2.2.2.2.2.2.2.2.2.2.1 c_sim.2.2.2.2.2.2.2.2.2.2.2) (fun r_4 =>
  bd1 (fX8_tellsMonth r_4 (23 : Int32) i3 c_sim.2.2.2.2.2.2.2.2.2.1 c_sim.2.2.2.2.2.2.2.2.2.2.1 c_sim.2.2.2.2.2.2.2.2.2.2.2) (fun r_5 =>
  fX8_tellsTenant_77 l1 i3 c_tenants c_room c_events c_sights c_event c_sight jF c_gone c_sim c_tenant c_rows r_5 (0 : Int32))))))
  else (
  rdA 24 c_tenant (((3 : Int32) * i3) + i6) (fun v_40 =>
  nmV ((((31 : Int64) * l4) + (Int32.toInt64 v_40))) (fun l4_41 =>
  nmV (i6 + (1 : Int32)) (fun i6_42 =>
  self c_gone c_sim c_tenant c_rows l4_41 i6_42))))
noncomputable def fX8_tellsTenant_10 (l1 : Int64) (i3 : Int32) (c_tenants : Int32) (c_room : Int32) (c_events : Int32) (c_sights : Int32) (c_event : Nat → Int32) (c_sight : Nat → Int32)  (n : Nat) : Int32 → jT11 → (Nat → Int32) → (Nat → Int64) → Int64 → Int32 → (Option (Int64 × Int32 × jT11 × (Nat → Int32) × (Nat → Int64))) := lpN (fun _ _ _ _ _ _ => none) (bX8_tellsTenant_10 l1 i3 c_tenants c_room c_events c_sights c_event c_sight ) n
noncomputable def fX8_tellsTenant (l1 : Int64) (i3 : Int32) (c_tenants : Int32) (c_room : Int32) (c_events : Int32) (c_sights : Int32) (c_event : Nat → Int32) (c_sight : Nat → Int32) (c_gone : Int32) (c_sim : jT11) (c_tenant : Nat → Int32) (c_rows : Nat → Int64) : Option (Int64 × Int32 × jT11 × (Nat → Int32) × (Nat → Int64)) :=
  bd1 (fX8_lives c_tenants c_room c_events c_gone c_tenant c_event c_sim) (fun c_sim_1 =>
  fX8_tellsTenant_10 l1 i3 c_tenants c_room c_events c_sights c_event c_sight jF c_gone c_sim_1 c_tenant c_rows l1 (0 : Int32))
noncomputable def bX8_digest_211 (c_latest : Int32) (c_typed : Int32) (c_events : Int32) (c_sights : Int32) (c_bytes : Nat → Int32) (c_event : Nat → Int32) (c_sight : Nat → Int32)  (self : Int32 → Int32 → Int32 → jT11 → Int32 → (Nat → Int32) → (Nat → Int64) → Int64 → Int32 → (Option (Int64 × Int32 × Int32 × Int32 × jT11 × Int32 × (Nat → Int32) × (Nat → Int64)))) (c_tenants : Int32) (c_room : Int32) (c_gone : Int32) (c_sim : jT11) (c_drawn : Int32) (c_tenant : Nat → Int32) (c_rows : Nat → Int64) (l1 : Int64) (i3 : Int32) : Option (Int64 × Int32 × Int32 × Int32 × jT11 × Int32 × (Nat → Int32) × (Nat → Int64)) :=
  if (3 : Int32) ≤ i3 then (
  bd3 (fX8_spareBy (-1 : Int32) c_tenants c_room c_events c_tenant c_event c_gone c_sim) (fun r_11 c_gone_12 c_sim_13 =>
  nmV ((((31 : Int64) * l1) + (Int32.toInt64 r_11))) (fun l1_14 =>
  bd3 (fX8_spareBy (0 : Int32) c_tenants c_room c_events c_tenant c_event c_gone_12 c_sim_13) (fun r_15 c_gone_16 c_sim_17 =>
  nmV ((((31 : Int64) * l1_14) + (Int32.toInt64 r_15))) (fun l1_18 =>
  bd3 (fX8_neverNow c_tenants c_room c_events c_sights c_tenant c_event c_sight c_gone_16 c_sim_17) (fun r_19 c_gone_20 c_sim_21 =>
  nmV ((((31 : Int64) * l1_18) + (Int32.toInt64 r_19))) (fun l1_22 =>
  bd5 (fX8_housesOf (7 : Int32) (6 : Int32) (0 : Int32) c_typed c_room c_events c_gone_20 c_bytes c_event c_tenants c_sim_21 c_drawn c_tenant) (fun r_23 c_tenants_24 c_sim_25 c_drawn_26 c_tenant_27 =>
  nmV ((((31 : Int64) * l1_22) + (Int32.toInt64 r_23))) (fun l1_28 =>
  bd5 (fX8_housesOf (7 : Int32) (6 : Int32) (1 : Int32) c_typed c_room c_events c_gone_20 c_bytes c_event c_tenants_24 c_sim_25 c_drawn_26 c_tenant_27) (fun r_29 c_tenants_30 c_sim_31 c_drawn_32 c_tenant_33 =>
  some ((((31 : Int64) * l1_28) + (Int32.toInt64 r_29)), c_tenants_30, c_room, c_gone_20, c_sim_31, c_drawn_32, c_tenant_33, c_rows)))))))))))
  else (
  bd3 (fX8_widenBy i3 c_tenants c_events c_gone c_tenant c_event c_room c_sim) (fun r_34 c_room_35 c_sim_36 =>
  nmV ((((31 : Int64) * l1) + (Int32.toInt64 r_34))) (fun l1_37 =>
  nmV (i3 + (1 : Int32)) (fun i3_38 =>
  self c_tenants c_room_35 c_gone c_sim_36 c_drawn c_tenant c_rows l1_37 i3_38))))
noncomputable def fX8_digest_211 (c_latest : Int32) (c_typed : Int32) (c_events : Int32) (c_sights : Int32) (c_bytes : Nat → Int32) (c_event : Nat → Int32) (c_sight : Nat → Int32)  (n : Nat) : Int32 → Int32 → Int32 → jT11 → Int32 → (Nat → Int32) → (Nat → Int64) → Int64 → Int32 → (Option (Int64 × Int32 × Int32 × Int32 × jT11 × Int32 × (Nat → Int32) × (Nat → Int64))) := lpN (fun _ _ _ _ _ _ _ _ _ => none) (bX8_digest_211 c_latest c_typed c_events c_sights c_bytes c_event c_sight ) n
noncomputable def bX8_digest_161 (c_latest : Int32) (c_typed : Int32) (c_events : Int32) (c_sights : Int32) (c_bytes : Nat → Int32) (c_event : Nat → Int32) (c_sight : Nat → Int32)  (self : Int32 → Int32 → Int32 → jT11 → Int32 → (Nat → Int32) → (Nat → Int64) → Int64 → Int32 → (Option (Int64 × Int32 × Int32 × Int32 × jT11 × Int32 × (Nat → Int32) × (Nat → Int64)))) (c_tenants : Int32) (c_room : Int32) (c_gone : Int32) (c_sim : jT11) (c_drawn : Int32) (c_tenant : Nat → Int32) (c_rows : Nat → Int64) (l1 : Int64) (i3 : Int32) : Option (Int64 × Int32 × Int32 × Int32 × jT11 × Int32 × (Nat → Int32) × (Nat → Int64)) :=
  if (4 : Int32) ≤ i3 then (
  bd1 (fX8_topNow c_tenants c_sim.2.1) (fun r_7 =>
  nmV ((((31 : Int64) * l1) + (Int32.toInt64 r_7))) (fun l1_8 =>
  bd1 (fX8_heardNow c_tenants c_sim.2.2.2.2.2.2.2.2.2.1) (fun r_9 =>
  nmV ((((31 : Int64) * l1_8) + (Int32.toInt64 r_9))) (fun l1_10 =>
  fX8_digest_211 c_latest c_typed c_events c_sights c_bytes c_event c_sight jF c_tenants c_room c_gone c_sim c_drawn c_tenant c_rows l1_10 (0 : Int32))))))
  else (
  bd1 (fX8_sumBy i3 c_tenants c_sim.2.2.2.2.1 c_sim.2.2.2.2.2.1 c_sim.2.2.2.2.2.2.1 c_sim.2.2.2.2.2.2.2.2.2.1 c_sim.2.2.2.2.2.2.2.2.2.2.1) (fun r_39 =>
  nmV ((((31 : Int64) * l1) + (Int32.toInt64 r_39))) (fun l1_40 =>
  nmV (i3 + (1 : Int32)) (fun i3_41 =>
  self c_tenants c_room c_gone c_sim c_drawn c_tenant c_rows l1_40 i3_41))))
noncomputable def fX8_digest_161 (c_latest : Int32) (c_typed : Int32) (c_events : Int32) (c_sights : Int32) (c_bytes : Nat → Int32) (c_event : Nat → Int32) (c_sight : Nat → Int32)  (n : Nat) : Int32 → Int32 → Int32 → jT11 → Int32 → (Nat → Int32) → (Nat → Int64) → Int64 → Int32 → (Option (Int64 × Int32 × Int32 × Int32 × jT11 × Int32 × (Nat → Int32) × (Nat → Int64))) := lpN (fun _ _ _ _ _ _ _ _ _ => none) (bX8_digest_161 c_latest c_typed c_events c_sights c_bytes c_event c_sight ) n
noncomputable def bX8_digest_134 (c_latest : Int32) (c_typed : Int32) (c_events : Int32) (c_sights : Int32) (c_bytes : Nat → Int32) (c_event : Nat → Int32) (c_sight : Nat → Int32)  (self : Int32 → Int32 → Int32 → jT11 → Int32 → (Nat → Int32) → (Nat → Int64) → Int64 → Int32 → (Option (Int64 × Int32 × Int32 × Int32 × jT11 × Int32 × (Nat → Int32) × (Nat → Int64)))) (c_tenants : Int32) (c_room : Int32) (c_gone : Int32) (c_sim : jT11) (c_drawn : Int32) (c_tenant : Nat → Int32) (c_rows : Nat → Int64) (l1 : Int64) (i3 : Int32) : Option (Int64 × Int32 × Int32 × Int32 × jT11 × Int32 × (Nat → Int32) × (Nat → Int64)) :=
  if c_tenants ≤ i3 then (
  bd1 (fX8_lives c_tenants c_room c_events c_gone c_tenant c_event c_sim) (fun c_sim_6 =>
  fX8_digest_161 c_latest c_typed c_events c_sights c_bytes c_event c_sight jF c_tenants c_room c_gone c_sim_6 c_drawn c_tenant c_rows l1 (0 : Int32)))
  else (
  bd5 (fX8_tellsTenant l1 i3 c_tenants c_room c_events c_sights c_event c_sight c_gone c_sim c_tenant c_rows) (fun r_42 c_gone_43 c_sim_44 c_tenant_45 c_rows_46 =>
  nmV (i3 + (1 : Int32)) (fun i3_47 =>
  self c_tenants c_room c_gone_43 c_sim_44 c_drawn c_tenant_45 c_rows_46 r_42 i3_47)))
noncomputable def fX8_digest_134 (c_latest : Int32) (c_typed : Int32) (c_events : Int32) (c_sights : Int32) (c_bytes : Nat → Int32) (c_event : Nat → Int32) (c_sight : Nat → Int32)  (n : Nat) : Int32 → Int32 → Int32 → jT11 → Int32 → (Nat → Int32) → (Nat → Int64) → Int64 → Int32 → (Option (Int64 × Int32 × Int32 × Int32 × jT11 × Int32 × (Nat → Int32) × (Nat → Int64))) := lpN (fun _ _ _ _ _ _ _ _ _ => none) (bX8_digest_134 c_latest c_typed c_events c_sights c_bytes c_event c_sight ) n
noncomputable def bX8_digest_76 (c_latest : Int32) (c_typed : Int32) (c_events : Int32) (c_sights : Int32) (c_bytes : Nat → Int32) (c_event : Nat → Int32) (c_sight : Nat → Int32)  (self : Int32 → Int32 → Int32 → jT11 → Int32 → (Nat → Int32) → (Nat → Int64) → Int64 → Int32 → (Option (Int64 × Int32 × Int32 × Int32 × jT11 × Int32 × (Nat → Int32) × (Nat → Int64)))) (c_tenants : Int32) (c_room : Int32) (c_gone : Int32) (c_sim : jT11) (c_drawn : Int32) (c_tenant : Nat → Int32) (c_rows : Nat → Int64) (l1 : Int64) (i3 : Int32) : Option (Int64 × Int32 × Int32 × Int32 × jT11 × Int32 × (Nat → Int32) × (Nat → Int64)) :=
  if (13 : Int32) ≤ i3 then (
  fX8_digest_134 c_latest c_typed c_events c_sights c_bytes c_event c_sight jF c_tenants c_room c_gone c_sim c_drawn c_tenant c_rows l1 (0 : Int32))
  else (
  bd1 (fX8_liveBy (3 : Int32) i3 c_tenants c_sim.2.2.2.2.2.2.2.2.2.1) (fun r_48 =>
  nmV ((((31 : Int64) * l1) + (Int32.toInt64 r_48))) (fun l1_49 =>
  bd1 (fX8_liveBy (9 : Int32) i3 c_tenants c_sim.2.2.2.2.2.2.2.2.2.1) (fun r_50 =>
  nmV ((((31 : Int64) * l1_49) + (Int32.toInt64 r_50))) (fun l1_51 =>
  bd1 (fX8_liveBy (23 : Int32) i3 c_tenants c_sim.2.2.2.2.2.2.2.2.2.1) (fun r_52 =>
  nmV ((((31 : Int64) * l1_51) + (Int32.toInt64 r_52))) (fun l1_53 =>
  nmV (i3 + (1 : Int32)) (fun i3_54 =>
  self c_tenants c_room c_gone c_sim c_drawn c_tenant c_rows l1_53 i3_54))))))))
noncomputable def fX8_digest_76 (c_latest : Int32) (c_typed : Int32) (c_events : Int32) (c_sights : Int32) (c_bytes : Nat → Int32) (c_event : Nat → Int32) (c_sight : Nat → Int32)  (n : Nat) : Int32 → Int32 → Int32 → jT11 → Int32 → (Nat → Int32) → (Nat → Int64) → Int64 → Int32 → (Option (Int64 × Int32 × Int32 × Int32 × jT11 × Int32 × (Nat → Int32) × (Nat → Int64))) := lpN (fun _ _ _ _ _ _ _ _ _ => none) (bX8_digest_76 c_latest c_typed c_events c_sights c_bytes c_event c_sight ) n
noncomputable def bX8_digest_49 (c_latest : Int32) (c_typed : Int32) (c_events : Int32) (c_sights : Int32) (c_bytes : Nat → Int32) (c_event : Nat → Int32) (c_sight : Nat → Int32)  (self : Int32 → Int32 → Int32 → jT11 → Int32 → (Nat → Int32) → (Nat → Int64) → Int64 → Int32 → (Option (Int64 × Int32 × Int32 × Int32 × jT11 × Int32 × (Nat → Int32) × (Nat → Int64)))) (c_tenants : Int32) (c_room : Int32) (c_gone : Int32) (c_sim : jT11) (c_drawn : Int32) (c_tenant : Nat → Int32) (c_rows : Nat → Int64) (l1 : Int64) (i3 : Int32) : Option (Int64 × Int32 × Int32 × Int32 × jT11 × Int32 × (Nat → Int32) × (Nat → Int64)) :=
  if (24 : Int32) ≤ i3 then (
  fX8_digest_76 c_latest c_typed c_events c_sights c_bytes c_event c_sight jF c_tenants c_room c_gone c_sim c_drawn c_tenant c_rows l1 (0 : Int32))
  else (
  bd1 (fX8_liftBy i3 c_tenants c_sim.2.2.2.2.2.2.2.2.2.1 c_sim.2.2.2.2.2.2.2.2.2.2.1) (fun r_55 =>
  nmV ((((31 : Int64) * l1) + (Int32.toInt64 r_55))) (fun l1_56 =>
  nmV (i3 + (1 : Int32)) (fun i3_57 =>
  self c_tenants c_room c_gone c_sim c_drawn c_tenant c_rows l1_56 i3_57))))
noncomputable def fX8_digest_49 (c_latest : Int32) (c_typed : Int32) (c_events : Int32) (c_sights : Int32) (c_bytes : Nat → Int32) (c_event : Nat → Int32) (c_sight : Nat → Int32)  (n : Nat) : Int32 → Int32 → Int32 → jT11 → Int32 → (Nat → Int32) → (Nat → Int64) → Int64 → Int32 → (Option (Int64 × Int32 × Int32 × Int32 × jT11 × Int32 × (Nat → Int32) × (Nat → Int64))) := lpN (fun _ _ _ _ _ _ _ _ _ => none) (bX8_digest_49 c_latest c_typed c_events c_sights c_bytes c_event c_sight ) n
noncomputable def bX8_digest_6 (c_latest : Int32) (c_typed : Int32) (c_events : Int32) (c_sights : Int32) (c_bytes : Nat → Int32) (c_event : Nat → Int32) (c_sight : Nat → Int32)  (self : Int32 → Int32 → Int32 → jT11 → Int32 → (Nat → Int32) → (Nat → Int64) → Int64 → Int32 → (Option (Int64 × Int32 × Int32 × Int32 × jT11 × Int32 × (Nat → Int32) × (Nat → Int64)))) (c_tenants : Int32) (c_room : Int32) (c_gone : Int32) (c_sim : jT11) (c_drawn : Int32) (c_tenant : Nat → Int32) (c_rows : Nat → Int64) (l1 : Int64) (i3 : Int32) : Option (Int64 × Int32 × Int32 × Int32 × jT11 × Int32 × (Nat → Int32) × (Nat → Int64)) :=
  if (8 : Int32) ≤ i3 then (
  bd3 (fX8_reads c_typed c_bytes c_tenants c_tenant) (fun r_1 c_tenants_2 c_tenant_3 =>
  nmV ((((31 : Int64) * l1) + (Int32.toInt64 r_1))) (fun l1_4 =>
  bd1 (fX8_lives c_tenants_2 c_room c_events c_gone c_tenant_3 c_event c_sim) (fun c_sim_5 =>
  fX8_digest_49 c_latest c_typed c_events c_sights c_bytes c_event c_sight jF c_tenants_2 c_room c_gone c_sim_5 c_drawn c_tenant_3 c_rows l1_4 (0 : Int32)))))
  else (
  bd4 (fX8_count i3 c_latest c_typed c_room c_events c_gone c_sights c_bytes c_event c_tenants c_sim c_tenant) (fun r_58 c_tenants_59 c_sim_60 c_tenant_61 =>
  nmV ((((31 : Int64) * l1) + (Int32.toInt64 r_58))) (fun l1_62 =>
  nmV (i3 + (1 : Int32)) (fun i3_63 =>
  self c_tenants_59 c_room c_gone c_sim_60 c_drawn c_tenant_61 c_rows l1_62 i3_63))))
noncomputable def fX8_digest_6 (c_latest : Int32) (c_typed : Int32) (c_events : Int32) (c_sights : Int32) (c_bytes : Nat → Int32) (c_event : Nat → Int32) (c_sight : Nat → Int32)  (n : Nat) : Int32 → Int32 → Int32 → jT11 → Int32 → (Nat → Int32) → (Nat → Int64) → Int64 → Int32 → (Option (Int64 × Int32 × Int32 × Int32 × jT11 × Int32 × (Nat → Int32) × (Nat → Int64))) := lpN (fun _ _ _ _ _ _ _ _ _ => none) (bX8_digest_6 c_latest c_typed c_events c_sights c_bytes c_event c_sight ) n
noncomputable def fX8_digest (c_latest : Int32) (c_typed : Int32) (c_events : Int32) (c_sights : Int32) (c_bytes : Nat → Int32) (c_event : Nat → Int32) (c_sight : Nat → Int32) (c_tenants : Int32) (c_room : Int32) (c_gone : Int32) (c_sim : jT11) (c_drawn : Int32) (c_tenant : Nat → Int32) (c_rows : Nat → Int64) : Option (Int64 × Int32 × Int32 × Int32 × jT11 × Int32 × (Nat → Int32) × (Nat → Int64)) :=
  fX8_digest_6 c_latest c_typed c_events c_sights c_bytes c_event c_sight jF c_tenants c_room c_gone c_sim c_drawn c_tenant c_rows (17 : Int64) (0 : Int32)
noncomputable def fJ9_max_7cf53 (i0 : Int32) (i1 : Int32) : Option (Int32) :=
  if i0 < i1 then (
  some (i1))
  else (
  some (i0))
noncomputable def fJ9_max_f86c9 (l0 : Int64) (l2 : Int64) : Option (Int64) :=
  if (lg_cmp l0 l2) < (0 : Int32) then (
  some (l2))
  else (
  some (l0))
noncomputable def fJ9_min_7cf53 (i0 : Int32) (i1 : Int32) : Option (Int32) :=
  if i1 < i0 then (
  some (i1))
  else (
  some (i0))
