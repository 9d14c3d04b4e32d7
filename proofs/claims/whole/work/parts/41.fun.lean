def f_Li_byteOf (x : q_W) (a0 : Int32) (a1 : Int32) : Option Int32 :=
  some ((((a0).toUInt32 >>> (((8 * a1)).toUInt32 &&& Int32.toUInt32 31)).toInt32) &&& 255)
def f_Li_append_L15 : Nat → q_W → Int32 → Int32 → Int32 → Option (Int32 × q_W)
  | 0 => fun _ _ _ _ => none
  | n + 1 => fun x v1 v2 v3 =>
    if v2 ≤ v3 then
      q_let (q_wr x 1 1 ((x.2 1 1) + v2)) fun x2 =>
      some ((q_nb 1), x2)
    else
      (f_Li_byteOf x v1 v3).bind fun w3 =>
      (q_sto x 2 18 ((x.2 1 1) + v3) (vp_nar .char ((w3.toUInt32 % 65536).toInt32))).bind fun x4 =>
      ((f_Li_append_L15  n) x4 v1 v2 (v3 + 1))
def f_Li_append (x : q_W) (a1 : Int32) (a2 : Int32) : Option (Int32 × q_W) :=
  if ((x.2 1 1) + a2) ≤ 18 then
    (f_Li_append_L15  q_fu x a1 a2 0)
  else
    some ((q_nb 0), x)
def f_Li_areVisible_L2 : Nat → q_W → Int32 → Int32 → Int32 → Option Int32
  | 0 => fun _ _ _ _ => none
  | n + 1 => fun x v0 v1 v2 =>
    if v1 ≤ v2 then
      some (q_nb 1)
    else
      (f_Li_byteOf x v0 v2).bind fun w1 =>
      if w1 < 33 then
        some (q_nb 0)
      else
        if w1 ≤ 126 then
          ((f_Li_areVisible_L2  n) x v0 v1 (v2 + 1))
        else
          some (q_nb 0)
def f_Li_areVisible (x : q_W) (a0 : Int32) (a1 : Int32) : Option Int32 :=
  (f_Li_areVisible_L2  q_fu x a0 a1 0)
def f_Li_countTyped_L2 : Nat → q_W → Int32 → Int32 → Option Int32
  | 0 => fun _ _ _ => none
  | n + 1 => fun x v0 v1 =>
    if 4 ≤ v1 then
      some v1
    else
      (f_Li_byteOf x v0 v1).bind fun w1 =>
      if w1 = 0 then
        some v1
      else
        ((f_Li_countTyped_L2  n) x v0 (v1 + 1))
def f_Li_countTyped (x : q_W) (a0 : Int32) : Option Int32 :=
  (f_Li_countTyped_L2  q_fu x a0 0)
def f_D_type (c d : Nat) (x : q_W) (a1 : Int32) : Option ((Int32 ⊕ Nat) × q_W) :=
  (f_Li_countTyped x a1).bind fun w1 =>
  (f_Li_areVisible x a1 w1).bind fun w2 =>
  if ¬ w2 = 0 then
    (f_Li_append x a1 w1).bind fun q3 =>
    some (.inl (q_nb q3.1), q3.2)
  else
    some (.inr 0, x)
def f_Fo_size (f : Nat) (x : q_W) : Option Int32 :=
  some (x.2 f 7)
def f_Li_clear (x : q_W) : Option q_W :=
  q_let (q_wr x 1 1 0) fun x1 =>
  some x1
def f_Fo_clear (f : Nat) (x : q_W) : Option q_W :=
  q_let (q_wr x f 7 0) fun x1 =>
  q_let (q_wr x1 f 8 0) fun x2 =>
  q_let (q_wr x2 f 9 0) fun x3 =>
  some x3
def f_Fo_listPromises_L7 (f : Nat) : Nat → q_W → Int32 → Option q_W
  | 0 => fun _ _ => none
  | n + 1 => fun x v1 =>
    if x.2 f 8 ≤ v1 then
      some x
    else
      if 5 ≤ v1 then
        some x
      else
        (q_ld x (f + 5) 5 v1).bind fun w2 =>
        (q_ld x (f + 1) 18 w2).bind fun w3 =>
        if w3 = 88 then
          ((f_Fo_listPromises_L7 f n) x (v1 + 1))
        else
          (q_ld x (f + 5) 5 v1).bind fun w4 =>
          (q_sto x (f + 6) 5 (x.2 f 9) w4).bind fun x5 =>
          q_let (q_wr x5 f 9 ((x5.2 f 9) + 1)) fun x6 =>
          ((f_Fo_listPromises_L7 f n) x6 (v1 + 1))
def f_Fo_listPromises (f : Nat) (x : q_W) : Option q_W :=
  q_let (q_wr x f 9 0) fun x1 =>
  (f_Fo_listPromises_L7 f q_fu x1 0)
def f_D_isTemporal (x : q_W) (a0 : Int32) : Option Int32 :=
  if a0 = 88 then
    some (q_nb 1)
  else
    if a0 = 70 then
      some (q_nb 1)
    else
      if a0 = 71 then
        some (q_nb 1)
      else
        if a0 = 85 then
          some (q_nb 1)
        else
          if ¬ a0 = 82 then
            some (q_nb 0)
          else
            some (q_nb 1)
def f_Fo_add_J86 (f : Nat) (x : q_W) : Option (Int32 × q_W) :=
  q_let (q_wr x f 7 ((x.2 f 7) + 1)) fun x11 =>
  some (((x11.2 f 7) - 1), x11)
def f_Fo_add (f : Nat) (x : q_W) (a1 : Int32) (a2 : Int32) (a3 : Int32) (a4 : Int32) : Option (Int32 × q_W) :=
  if x.2 f 7 < 18 then
    (q_sto x (f + 1) 18 (x.2 f 7) a1).bind fun x1 =>
    (q_sto x1 (f + 2) 18 (x1.2 f 7) a2).bind fun x2 =>
    (q_sto x2 (f + 3) 18 (x2.2 f 7) a3).bind fun x3 =>
    (q_sto x3 (f + 4) 18 (x3.2 f 7) a4).bind fun x4 =>
    (f_D_isTemporal x4 a1).bind fun w5 =>
    if w5 = 0 then
      (f_Fo_add_J86 f x4 )
    else
      if 5 ≤ a4 then
        (f_Fo_add_J86 f x4 )
      else
        (q_sto x4 (f + 5) 5 a4 (x4.2 f 7)).bind fun x6 =>
        q_let (q_wr x6 f 8 ((x6.2 f 8) + 1)) fun x7 =>
        (f_Fo_add_J86 f x7 )
  else
    some ((-1), x)
def f_Li_levelJoinedBy (x : q_W) (a0 : Int32) : Option Int32 :=
  if a0 = 38 then
    some 2
  else if a0 = 62 then
    some 0
  else if a0 = 82 then
    some 3
  else if a0 = 85 then
    some 3
  else if a0 = 124 then
    some 1
  else 
    some (-1)
def f_Li_signAt (x : q_W) (a1 : Int32) : Option Int32 :=
  if a1 < 0 then
    some 0
  else
    if x.2 1 1 ≤ a1 then
      some 0
    else
      (q_ld x 2 18 a1).bind fun w1 =>
      some w1
def f_Li_readBracket (REC : Nat → Int32 → Int32 → q_W → Option (Int32 × q_W)) (f : Nat) (x : q_W) (a2 : Int32) : Option (Int32 × q_W) :=
  (REC 0 0 a2 x).bind fun q1 =>
  (f_Li_signAt q1.2 (q1.2.2 1 2)).bind fun w2 =>
  if w2 = 41 then
    q_let (q_wr q1.2 1 2 ((q1.2.2 1 2) + 1)) fun x3 =>
    some (q1.1, x3)
  else
    some ((-1), q1.2)
def f_Li_temporalsBefore_L4 : Nat → q_W → Int32 → Int32 → Int32 → Option Int32
  | 0 => fun _ _ _ _ => none
  | n + 1 => fun x v1 v2 v3 =>
    if v1 ≤ v3 then
      some v2
    else
      (f_Li_signAt x v3).bind fun w1 =>
      (f_D_isTemporal x w1).bind fun w2 =>
      if w2 = 0 then
        ((f_Li_temporalsBefore_L4  n) x v1 v2 (v3 + 1))
      else
        ((f_Li_temporalsBefore_L4  n) x v1 (v2 + 1) (v3 + 1))
def f_Li_temporalsBefore (x : q_W) (a1 : Int32) : Option Int32 :=
  (f_Li_temporalsBefore_L4  q_fu x a1 0 0)
def f_Li_readSimple_J130 (REC : Nat → Int32 → Int32 → q_W → Option (Int32 × q_W)) (f : Nat) (x : q_W) (v2 : Int32) (v3 : Int32) (v4 : Int32) : Option (Int32 × q_W) :=
  (REC 1 v2 0 x).bind fun q16 =>
  if ¬ q16.1 = (-1) then
    (f_Fo_add f q16.2 v3 q16.1 q16.1 v4).bind fun q17 =>
    some (q17.1, q17.2)
  else
    some ((-1), q16.2)
def f_Li_readSimple_J120 (REC : Nat → Int32 → Int32 → q_W → Option (Int32 × q_W)) (f : Nat) (x : q_W) (v3 : Int32) (v4 : Int32) : Option (Int32 × q_W) :=
  (f_Fo_add f x v3 0 0 v4).bind fun q19 =>
  some (q19.1, q19.2)
def f_Li_readSimple (REC : Nat → Int32 → Int32 → q_W → Option (Int32 × q_W)) (f : Nat) (x : q_W) (a2 : Int32) : Option (Int32 × q_W) :=
  (f_Li_signAt x (x.2 1 2)).bind fun w1 =>
  (f_Li_temporalsBefore x (x.2 1 2)).bind fun w2 =>
  q_let (q_wr x 1 2 ((x.2 1 2) + 1)) fun x3 =>
  if w1 = 33 then
    (f_Li_readSimple_J130 REC f x3 a2 w1 w2)
  else if w1 = 40 then
    if a2 < 4 then
      (REC 2 (a2 + 1) 0 x3).bind fun q6 =>
      some (q6.1, q6.2)
    else
      some ((-1), x3)
  else if w1 = 48 then
    (f_Li_readSimple_J120 REC f x3 w1 w2)
  else if w1 = 49 then
    (f_Li_readSimple_J120 REC f x3 w1 w2)
  else if w1 = 70 then
    (f_Li_readSimple_J130 REC f x3 a2 w1 w2)
  else if w1 = 71 then
    (f_Li_readSimple_J130 REC f x3 a2 w1 w2)
  else if w1 = 88 then
    (f_Li_readSimple_J130 REC f x3 a2 w1 w2)
  else if w1 = 97 then
    (f_Li_readSimple_J120 REC f x3 w1 w2)
  else if w1 = 98 then
    (f_Li_readSimple_J120 REC f x3 w1 w2)
  else if w1 = 99 then
    (f_Li_readSimple_J120 REC f x3 w1 w2)
  else 
    some ((-1), x3)
def f_Li_readLevel (REC : Nat → Int32 → Int32 → q_W → Option (Int32 × q_W)) (f : Nat) (x : q_W) (a2 : Int32) (a3 : Int32) : Option (Int32 × q_W) :=
  if a2 < 4 then
    (REC 0 (a2 + 1) a3 x).bind fun q1 =>
    (f_Li_signAt q1.2 (q1.2.2 1 2)).bind fun w2 =>
    if q1.1 = (-1) then
      some (q1.1, q1.2)
    else
      (f_Li_levelJoinedBy q1.2 w2).bind fun w3 =>
      if w3 = a2 then
        (f_Li_temporalsBefore q1.2 (q1.2.2 1 2)).bind fun w4 =>
        q_let (q_wr q1.2 1 2 ((q1.2.2 1 2) + 1)) fun x5 =>
        (REC 0 a2 a3 x5).bind fun q6 =>
        if ¬ q6.1 = (-1) then
          (f_Fo_add f q6.2 w2 q1.1 q6.1 w4).bind fun q7 =>
          some (q7.1, q7.2)
        else
          some ((-1), q6.2)
      else
        some (q1.1, q1.2)
  else
    (REC 1 a3 0 x).bind fun q11 =>
    some (q11.1, q11.2)
def f_read (f : Nat) : Nat → Nat → Int32 → Int32 → q_W → Option (Int32 × q_W)
  | 0 => fun _ _ _ _ => none
  | n + 1 => fun tag a b x => match tag with
    | 0 => f_Li_readLevel (f_read f n) f x a b
    | 1 => f_Li_readSimple (f_read f n) f x a
    | _ => f_Li_readBracket (f_read f n) f x a
def q_hREC (E : q_E) (c d f : Nat) (REC : Nat → Int32 → Int32 → q_W → Option (Int32 × q_W)) (D : Nat) : Prop := ∀ (tag : Nat) (a b : Int32) (x : q_W) (v : Int32 × q_W), REC tag a b x = some v → (match tag with
  | 0 => q_Ct E y_Li_readLevel m_Li_readLevel (q_rm D) (q_cells E c d x) [.ref 1, .ref f, .int a, .int b] (q_rS E c d v)
  | 1 => q_Ct E y_Li_readSimple m_Li_readSimple (q_rm D) (q_cells E c d x) [.ref 1, .ref f, .int a] (q_rS E c d v)
  | _ => q_Ct E y_Li_readBracket m_Li_readBracket (q_rm D) (q_cells E c d x) [.ref 1, .ref f, .int a] (q_rS E c d v))
def f_Li_readInto (f : Nat) (x : q_W) : Option (Int32 × q_W) :=
  (f_Fo_clear f x).bind fun x1 =>
  q_let (q_wr x1 1 2 0) fun x2 =>
  (f_Li_temporalsBefore x2 (x2.2 1 1)).bind fun w3 =>
  if w3 ≤ 5 then
    (f_read f 70 0 0 0 x2).bind fun q4 =>
    if q4.1 = (-1) then
      some ((q_nb 0), q4.2)
    else
      if q4.2.2 1 2 = q4.2.2 1 1 then
        (f_Fo_listPromises f q4.2).bind fun x5 =>
        some ((q_nb 1), x5)
      else
        some ((q_nb 0), q4.2)
  else
    some ((q_nb 0), x2)
def f_D_formula (c d : Nat) (x : q_W) : Option ((Int32 ⊕ Nat) × (Nat × Nat × q_W)) :=
  (f_Li_readInto d x).bind fun q1 =>
  (f_Li_clear q1.2).bind fun x2 =>
  if ¬ q1.1 = 0 then
    q_let (q_wr x2 0 6 1) fun x3 =>
    q_let (q_wr x3 0 7 0) fun x4 =>
    (f_Fo_size d x4).bind fun w5 =>
    some (.inl w5, (d, c, x4))
  else
    some (.inr 0, (c, d, x2))
def f_D_requireFormula (c d : Nat) (x : q_W) : Option (Int32 ⊕ Nat) :=
  if ¬ x.2 0 6 = 0 then
    some (.inl 0)
  else
    some (.inr 1)
def f_Fo_stateCount (f : Nat) (x : q_W) : Option Int32 :=
  some (8 <<< ((x.2 f 8) &&& 31))
def f_D_states (c d : Nat) (x : q_W) : Option (Int32 ⊕ Nat) :=
  q_tpp (f_D_requireFormula c d x) fun w1 =>
  (f_Fo_stateCount c x).bind fun w3 =>
  some (.inl w3)
def f_D_requireState (c d : Nat) (x : q_W) (a1 : Int32) : Option (Int32 ⊕ Nat) :=
  if a1 < 0 then
    some (.inr 2)
  else
    (f_Fo_stateCount c x).bind fun w1 =>
    if a1 < w1 then
      some (.inl 0)
    else
      some (.inr 2)
def f_D_hasBit (x : q_W) (a0 : Int32) (a1 : Int32) : Option Int32 :=
  if ((a0 >>> (a1 &&& 31)) &&& 1) = 0 then
    some (q_nb 0)
  else
    some (q_nb 1)
def f_Fo_isWholeIn (f : Nat) (x : q_W) (a1 : Int32) : Option Int32 :=
  (f_D_hasBit x a1 ((x.2 f 7) - 1)).bind fun w1 =>
  some (q_nb w1)
def f_Fo_isPartAt (f : Nat) (x : q_W) (a1 : Int32) (a2 : Int32) (a3 : Int32) : Option Int32 :=
  (q_ld x (f + 2) 18 a1).bind fun w1 =>
  (f_D_hasBit x a3 w1).bind fun w2 =>
  (q_ld x (f + 3) 18 a1).bind fun w3 =>
  (f_D_hasBit x a3 w3).bind fun w4 =>
  (q_ld x (f + 4) 18 a1).bind fun w5 =>
  (f_D_hasBit x a2 (3 + w5)).bind fun w6 =>
  (q_ld x (f + 1) 18 a1).bind fun w7 =>
  if w7 = 33 then
    if ¬ w4 = 0 then
      some (q_nb 0)
    else
      some (q_nb 1)
  else if w7 = 38 then
    if w2 = 0 then
      some (q_nb 0)
    else
      if w4 = 0 then
        some (q_nb 0)
      else
        some (q_nb 1)
  else if w7 = 49 then
    some (q_nb 1)
  else if w7 = 62 then
    if w2 = 0 then
      some (q_nb 1)
    else
      if w4 = 0 then
        some (q_nb 0)
      else
        some (q_nb 1)
  else if w7 = 70 then
    if ¬ w4 = 0 then
      some (q_nb 1)
    else
      if w6 = 0 then
        some (q_nb 0)
      else
        some (q_nb 1)
  else if w7 = 71 then
    if w4 = 0 then
      some (q_nb 0)
    else
      if w6 = 0 then
        some (q_nb 0)
      else
        some (q_nb 1)
  else if w7 = 82 then
    if w4 = 0 then
      some (q_nb 0)
    else
      if ¬ w2 = 0 then
        some (q_nb 1)
      else
        if w6 = 0 then
          some (q_nb 0)
        else
          some (q_nb 1)
  else if w7 = 85 then
    if ¬ w4 = 0 then
      some (q_nb 1)
    else
      if w2 = 0 then
        some (q_nb 0)
      else
        if w6 = 0 then
          some (q_nb 0)
        else
          some (q_nb 1)
  else if w7 = 88 then
    some (q_nb w6)
  else if w7 = 97 then
    (f_D_hasBit x a2 0).bind fun w33 =>
    some (q_nb w33)
  else if w7 = 98 then
    (f_D_hasBit x a2 1).bind fun w35 =>
    some (q_nb w35)
  else if w7 = 99 then
    (f_D_hasBit x a2 2).bind fun w37 =>
    some (q_nb w37)
  else if w7 = 124 then
    if ¬ w2 = 0 then
      some (q_nb 1)
    else
      if w4 = 0 then
        some (q_nb 0)
      else
        some (q_nb 1)
  else 
    some (q_nb 0)
def f_Fo_partsAt_L4 (f : Nat) : Nat → q_W → Int32 → Int32 → Int32 → Option Int32
  | 0 => fun _ _ _ _ => none
  | n + 1 => fun x v1 v2 v3 =>
    if x.2 f 7 ≤ v3 then
      some v2
    else
      (f_Fo_isPartAt f x v3 v1 v2).bind fun w1 =>
      if w1 = 0 then
        ((f_Fo_partsAt_L4 f n) x v1 v2 (v3 + 1))
      else
        q_let ((v2 ||| (1 <<< (v3 &&& 31)))) fun z2 =>
        ((f_Fo_partsAt_L4 f n) x v1 z2 (v3 + 1))
def f_Fo_partsAt (f : Nat) (x : q_W) (a1 : Int32) : Option Int32 :=
  (f_Fo_partsAt_L4 f q_fu x a1 0 0)
def f_D_isAt (c d : Nat) (x : q_W) (a1 : Int32) : Option (Int32 ⊕ Nat) :=
  q_tpp (f_D_requireFormula c d x) fun w1 =>
  q_tpp (f_D_requireState c d x a1) fun w3 =>
  (f_Fo_partsAt c x a1).bind fun w5 =>
  (f_Fo_isWholeIn c x w5).bind fun w6 =>
  some (.inl (q_nb w6))
def f_Fo_expectedBefore_J45 (f : Nat) (K4 : q_W → Int32 → Int32 → Int32 → Option Int32) (x : q_W) (v1 : Int32) (v2 : Int32) (v3 : Int32) (s0 : Int32) (s1 : Int32) : Option Int32 :=
  (f_D_hasBit x s1 s0).bind fun w6 =>
  if w6 = 0 then
    (K4 x v1 v2 (v3 + 1))
  else
    q_let ((v2 ||| (1 <<< (v3 &&& 31)))) fun z7 =>
    (K4 x v1 z7 (v3 + 1))
def f_Fo_expectedBefore_L4 (f : Nat) : Nat → q_W → Int32 → Int32 → Int32 → Option Int32
  | 0 => fun _ _ _ _ => none
  | n + 1 => fun x v1 v2 v3 =>
    if x.2 f 8 ≤ v3 then
      some v2
    else
      (q_ld x (f + 5) 5 v3).bind fun w1 =>
      (q_ld x (f + 1) 18 w1).bind fun w2 =>
      if ¬ w2 = 88 then
        (f_Fo_expectedBefore_J45 f (f_Fo_expectedBefore_L4 f n) x v1 v2 v3 w1 v1)
      else
        (q_ld x (f + 3) 18 w1).bind fun w3 =>
        (f_Fo_expectedBefore_J45 f (f_Fo_expectedBefore_L4 f n) x v1 v2 v3 w3 v1)
def f_Fo_expectedBefore (f : Nat) (x : q_W) (a1 : Int32) : Option Int32 :=
  (f_Fo_expectedBefore_L4 f q_fu x a1 0 0)
def f_D_leads (c d : Nat) (x : q_W) (a1 : Int32) (a2 : Int32) : Option (Int32 ⊕ Nat) :=
  q_tpp (f_D_requireFormula c d x) fun w1 =>
  q_tpp (f_D_requireState c d x a1) fun w3 =>
  q_tpp (f_D_requireState c d x a2) fun w5 =>
  (f_Fo_partsAt c x a2).bind fun w7 =>
  (f_Fo_expectedBefore c x w7).bind fun w8 =>
  if ¬ (a1 >>> (3 &&& 31)) = w8 then
    some (.inl (q_nb 0))
  else
    some (.inl (q_nb 1))
def f_La_reachBefore_L17 : Nat → q_W → Int32 → Int32 → Int32 → Int32 → Int32 → Option (Int32 × q_W)
  | 0 => fun _ _ _ _ _ _ => none
  | n + 1 => fun x v1 v2 v4 v5 v6 =>
    if (v5 + 8) ≤ v6 then
      some (v4, x)
    else
      (q_ld x 8 256 v6).bind fun w3 =>
      if w3 = 0 then
        ((f_La_reachBefore_L17  n) x v1 v2 v4 v5 (v6 + 1))
      else
        (q_ld x 9 1280 (v2 + v6)).bind fun w4 =>
        if ¬ w4 = (-1) then
          ((f_La_reachBefore_L17  n) x v1 v2 v4 v5 (v6 + 1))
        else
          (q_ld x 9 1280 (v2 + v1)).bind fun w5 =>
          (q_sto x 9 1280 (v2 + v6) (w5 + 1)).bind fun x6 =>
          (q_sto x6 10 256 v4 v6).bind fun x7 =>
          ((f_La_reachBefore_L17  n) x7 v1 v2 (v4 + 1) v5 (v6 + 1))
def f_La_reachBefore (x : q_W) (a1 : Int32) (a2 : Int32) (a3 : Int32) : Option (Int32 × q_W) :=
  (q_ld x 4 256 a1).bind fun w1 =>
  q_let ((w1 <<< (3 &&& 31))) fun z2 =>
  (f_La_reachBefore_L17  q_fu x a1 a2 a3 z2 z2)
def f_La_countSteps_L95 : Nat → q_W → Int32 → Int32 → Int32 → Option q_W
  | 0 => fun _ _ _ _ => none
  | n + 1 => fun x v2 v3 v4 =>
    if v3 ≤ v4 then
      some x
    else
      if x.2 3 7 ≤ v4 then
        some x
      else
        (q_ld x 10 256 v4).bind fun w8 =>
        (f_La_reachBefore x w8 v2 v3).bind fun q9 =>
        ((f_La_countSteps_L95  n) q9.2 v2 q9.1 (v4 + 1))
def f_La_countSteps_J69 (K11 : q_W → Int32 → Int32 → Int32 → Int32 → Option q_W) (x : q_W) (v1 : Int32) (v2 : Int32) (v3 : Int32) (v4 : Int32) (v5 : Int32) (s0 : Int32) (s1 : Int32) : Option q_W :=
  (q_sto x 9 1280 s1 s0).bind fun x13 =>
  if v5 = 0 then
    (K11 x13 v1 v2 v3 (v4 + 1))
  else
    (q_sto x13 10 256 v3 v4).bind fun x14 =>
    (K11 x14 v1 v2 (v3 + 1) (v4 + 1))
def f_La_countSteps_J49 (K11 : q_W → Int32 → Int32 → Int32 → Int32 → Option q_W) (x : q_W) (v1 : Int32) (v2 : Int32) (v3 : Int32) (v4 : Int32) (s0 : Int32) : Option q_W :=
  if s0 = 0 then
    (f_La_countSteps_J69 K11 x v1 v2 v3 v4 s0 (-1) (v2 + v4))
  else
    (f_La_countSteps_J69 K11 x v1 v2 v3 v4 s0 0 (v2 + v4))
def f_La_countSteps_J48 (K11 : q_W → Int32 → Int32 → Int32 → Int32 → Option q_W) (x : q_W) (v1 : Int32) (v2 : Int32) (v3 : Int32) (v4 : Int32) : Option q_W :=
  (f_La_countSteps_J49 K11 x v1 v2 v3 v4 0)
def f_La_countSteps_L11 : Nat → q_W → Int32 → Int32 → Int32 → Int32 → Option q_W
  | 0 => fun _ _ _ _ _ => none
  | n + 1 => fun x v1 v2 v3 v4 =>
    if x.2 3 7 ≤ v4 then
      (f_La_countSteps_L95  q_fu x v2 v3 0)
    else
      (q_ld x 8 256 v4).bind fun w2 =>
      if w2 = 0 then
        (f_La_countSteps_J48 (f_La_countSteps_L11  n) x v1 v2 v3 v4)
      else
        (q_ld x 5 256 v4).bind fun w3 =>
        (f_D_hasBit x w3 v1).bind fun w4 =>
        if w4 = 0 then
          (f_La_countSteps_J48 (f_La_countSteps_L11  n) x v1 v2 v3 v4)
        else
          (f_La_countSteps_J49 (f_La_countSteps_L11  n) x v1 v2 v3 v4 1)
def f_La_countSteps (x : q_W) (a1 : Int32) : Option q_W :=
  q_let ((a1 * 256)) fun z1 =>
  (f_La_countSteps_L11  q_fu x a1 z1 0 0)
def f_Fo_isForOnce (f : Nat) (x : q_W) (a1 : Int32) : Option Int32 :=
  (q_ld x (f + 1) 18 a1).bind fun w1 =>
  if w1 = 70 then
    some (q_nb 1)
  else
    (q_ld x (f + 1) 18 a1).bind fun w2 =>
    if ¬ w2 = 85 then
      some (q_nb 0)
    else
      some (q_nb 1)
def f_Fo_keptIn_L4 (f : Nat) : Nat → q_W → Int32 → Int32 → Int32 → Option Int32
  | 0 => fun _ _ _ _ => none
  | n + 1 => fun x v1 v2 v3 =>
    if x.2 f 9 ≤ v3 then
      some v2
    else
      (q_ld x (f + 6) 5 v3).bind fun w1 =>
      (q_ld x (f + 3) 18 w1).bind fun w2 =>
      (f_D_hasBit x v1 w2).bind fun w3 =>
      (f_Fo_isForOnce f x w1).bind fun w4 =>
      if ¬ w3 = w4 then
        ((f_Fo_keptIn_L4 f n) x v1 v2 (v3 + 1))
      else
        q_let ((v2 ||| (1 <<< (v3 &&& 31)))) fun z5 =>
        ((f_Fo_keptIn_L4 f n) x v1 z5 (v3 + 1))
def f_Fo_keptIn (f : Nat) (x : q_W) (a1 : Int32) : Option Int32 :=
  (f_Fo_keptIn_L4 f q_fu x a1 0 0)
def f_Fo_openIn_L4 (f : Nat) : Nat → q_W → Int32 → Int32 → Int32 → Option Int32
  | 0 => fun _ _ _ _ => none
  | n + 1 => fun x v1 v2 v3 =>
    if x.2 f 9 ≤ v3 then
      some v2
    else
      (q_ld x (f + 6) 5 v3).bind fun w1 =>
      (f_D_hasBit x v1 w1).bind fun w2 =>
      (f_Fo_isForOnce f x w1).bind fun w3 =>
      if ¬ w2 = w3 then
        ((f_Fo_openIn_L4 f n) x v1 v2 (v3 + 1))
      else
        q_let ((v2 ||| (1 <<< (v3 &&& 31)))) fun z4 =>
        ((f_Fo_openIn_L4 f n) x v1 z4 (v3 + 1))
def f_Fo_openIn (f : Nat) (x : q_W) (a1 : Int32) : Option Int32 :=
  (f_Fo_openIn_L4 f q_fu x a1 0 0)
def f_Fo_promiseCount (f : Nat) (x : q_W) : Option Int32 :=
  some (x.2 f 9)
def f_La_lookAtStates_L26 (f : Nat) : Nat → q_W → Int32 → Option q_W
  | 0 => fun _ _ => none
  | n + 1 => fun x v2 =>
    if x.2 3 7 ≤ v2 then
      some x
    else
      (f_Fo_partsAt f x v2).bind fun w6 =>
      (f_Fo_expectedBefore f x w6).bind fun w7 =>
      (q_sto x 4 256 v2 w7).bind fun x8 =>
      (f_Fo_keptIn f x8 w6).bind fun w9 =>
      (q_sto x8 5 256 v2 w9).bind fun x10 =>
      (f_Fo_openIn f x10 w6).bind fun w11 =>
      (q_ld x10 5 256 v2).bind fun w12 =>
      (q_sto x10 6 256 v2 (w11 &&& (w12 ^^^ (-1)))).bind fun x13 =>
      (f_Fo_isWholeIn f x13 w6).bind fun w14 =>
      (q_sto x13 7 256 v2 (vp_nar .boolean w14)).bind fun x15 =>
      (q_sto x15 8 256 v2 (vp_nar .boolean 1)).bind fun x16 =>
      ((f_La_lookAtStates_L26 f n) x16 (v2 + 1))
def f_La_lookAtStates (f : Nat) (x : q_W) : Option q_W :=
  (f_Fo_stateCount f x).bind fun w1 =>
  q_let (q_wr x 3 7 w1) fun x2 =>
  (f_Fo_promiseCount f x2).bind fun w3 =>
  q_let (q_wr x2 3 8 w3) fun x4 =>
  q_let (q_wr x4 3 9 (x4.2 3 7)) fun x5 =>
  (f_La_lookAtStates_L26 f q_fu x5 0)
def f_La_takeAway (x : q_W) (a1 : Int32) : Option q_W :=
  (q_sto x 8 256 a1 (vp_nar .boolean 0)).bind fun x1 =>
  q_let (q_wr x1 3 9 ((x1.2 3 9) - 1)) fun x2 =>
  some x2
def f_La_sweepDeadEnds_L40 : Nat → q_W → Int32 → Int32 → Option q_W
  | 0 => fun _ _ _ => none
  | n + 1 => fun x v1 v2 =>
    if x.2 3 7 ≤ v2 then
      some x
    else
      (q_ld x 8 256 v2).bind fun w6 =>
      if w6 = 0 then
        ((f_La_sweepDeadEnds_L40  n) x v1 (v2 + 1))
      else
        (f_D_hasBit x v1 (v2 >>> (3 &&& 31))).bind fun w7 =>
        if ¬ w7 = 0 then
          ((f_La_sweepDeadEnds_L40  n) x v1 (v2 + 1))
        else
          (f_La_takeAway x v2).bind fun x8 =>
          ((f_La_sweepDeadEnds_L40  n) x8 v1 (v2 + 1))
def f_La_sweepDeadEnds_L4 : Nat → q_W → Int32 → Int32 → Option q_W
  | 0 => fun _ _ _ => none
  | n + 1 => fun x v1 v2 =>
    if x.2 3 7 ≤ v2 then
      (f_La_sweepDeadEnds_L40  q_fu x v1 0)
    else
      (q_ld x 8 256 v2).bind fun w1 =>
      if w1 = 0 then
        ((f_La_sweepDeadEnds_L4  n) x v1 (v2 + 1))
      else
        (q_ld x 4 256 v2).bind fun w2 =>
        q_let ((v1 ||| (1 <<< (w2 &&& 31)))) fun z3 =>
        ((f_La_sweepDeadEnds_L4  n) x z3 (v2 + 1))
def f_La_sweepDeadEnds (x : q_W) : Option q_W :=
  (f_La_sweepDeadEnds_L4  q_fu x 0 0)
def f_La_stepsFrom (x : q_W) (a1 : Int32) (a2 : Int32) : Option Int32 :=
  (q_ld x 9 1280 ((a2 * 256) + a1)).bind fun w1 =>
  some w1
def f_La_sweepUnkept_L2 : Nat → q_W → Int32 → Int32 → Option q_W
  | 0 => fun _ _ _ => none
  | n + 1 => fun x v1 v2 =>
    if x.2 3 7 ≤ v2 then
      some x
    else
      (q_ld x 8 256 v2).bind fun w1 =>
      if w1 = 0 then
        ((f_La_sweepUnkept_L2  n) x v1 (v2 + 1))
      else
        (q_ld x 6 256 v2).bind fun w2 =>
        (f_D_hasBit x w2 v1).bind fun w3 =>
        if w3 = 0 then
          ((f_La_sweepUnkept_L2  n) x v1 (v2 + 1))
        else
          (f_La_stepsFrom x v2 v1).bind fun w4 =>
          if ¬ w4 = (-1) then
            ((f_La_sweepUnkept_L2  n) x v1 (v2 + 1))
          else
            (f_La_takeAway x v2).bind fun x5 =>
            ((f_La_sweepUnkept_L2  n) x5 v1 (v2 + 1))
def f_La_sweepUnkept (x : q_W) (a1 : Int32) : Option q_W :=
  (f_La_sweepUnkept_L2  q_fu x a1 0)
def f_La_find_L33 (f : Nat) (K9 : q_W → Int32 → Int32 → Option q_W) (E33 : q_W → Int32 → Int32 → Option q_W) : Nat → q_W → Int32 → Int32 → Int32 → Option q_W
  | 0 => fun _ _ _ _ => none
  | n + 1 => fun x v3 v4 v5 =>
    if x.2 3 8 ≤ v5 then
      (E33 x v3 v4)
    else
      (f_La_countSteps x v5).bind fun x10 =>
      (f_La_sweepUnkept x10 v5).bind fun x11 =>
      ((f_La_find_L33 f K9 E33 n) x11 v3 v4 (v5 + 1))
def f_La_find_L9 (f : Nat) : Nat → q_W → Int32 → Int32 → Option q_W
  | 0 => fun _ _ _ => none
  | n + 1 => fun x v2 v3 =>
    if v2 = 0 then
      some x
    else
      if 256 < v3 then
        some x
      else
        q_let (x.2 3 9) fun z2 =>
        (f_La_sweepDeadEnds x).bind fun x3 =>
        (f_La_find_L33 f (f_La_find_L9 f n) (fun x4 u5 u6 => if u6 ≤ x4.2 3 9 then
          ((f_La_find_L9 f n) x4 0 (u5 + 1))
        else
          ((f_La_find_L9 f n) x4 1 (u5 + 1))) q_fu x3 v3 z2 0)
def f_La_find (f : Nat) (x : q_W) : Option q_W :=
  (f_La_lookAtStates f x).bind fun x1 =>
  (f_La_find_L9 f q_fu x1 1 0)
def f_La_dutyFrom_L5 : Nat → q_W → Int32 → Int32 → Int32 → Int32 → Option Int32
  | 0 => fun _ _ _ _ _ => none
  | n + 1 => fun x v1 v2 v3 v4 =>
    if x.2 3 8 ≤ v4 then
      some v2
    else
      (q_ld x 6 256 v1).bind fun w1 =>
      (f_D_hasBit x w1 v3).bind fun w2 =>
      if w2 = 0 then
        if x.2 3 8 ≤ (v3 + 1) then
          ((f_La_dutyFrom_L5  n) x v1 v2 0 (v4 + 1))
        else
          q_let ((v3 + 1)) fun z3 =>
          ((f_La_dutyFrom_L5  n) x v1 v2 z3 (v4 + 1))
      else
        some v3
def f_La_dutyFrom (x : q_W) (a1 : Int32) (a2 : Int32) : Option Int32 :=
  (f_La_dutyFrom_L5  q_fu x a1 a2 a2 0)
def f_La_leastWhole_L2 : Nat → q_W → Int32 → Option Int32
  | 0 => fun _ _ => none
  | n + 1 => fun x v1 =>
    if x.2 3 7 ≤ v1 then
      some (-1)
    else
      (q_ld x 8 256 v1).bind fun w1 =>
      if w1 = 0 then
        ((f_La_leastWhole_L2  n) x (v1 + 1))
      else
        (q_ld x 7 256 v1).bind fun w2 =>
        if w2 = 0 then
          ((f_La_leastWhole_L2  n) x (v1 + 1))
        else
          some v1
def f_La_leastWhole (x : q_W) : Option Int32 :=
  (f_La_leastWhole_L2  q_fu x 0)
def f_La_isNearer (x : q_W) (a1 : Int32) (a2 : Int32) (a3 : Int32) : Option Int32 :=
  (f_La_stepsFrom x a2 a3).bind fun w1 =>
  (f_La_stepsFrom x a1 a3).bind fun w2 =>
  if w2 = (-1) then
    some (q_nb 0)
  else
    if w1 = (-1) then
      some (q_nb 1)
    else
      if w1 ≤ w2 then
        some (q_nb 0)
      else
        some (q_nb 1)
def f_La_nextFrom_J54 (K17 : q_W → Int32 → Int32 → Int32 → Int32 → Int32 → Option Int32) (x : q_W) (v1 : Int32) (v2 : Int32) (v3 : Int32) (v4 : Int32) (v5 : Int32) (s0 : Int32) : Option Int32 :=
  if s0 = 0 then
    (K17 x v1 v2 v3 v4 (v5 + 1))
  else
    if v4 = (-1) then
      (K17 x v1 v2 v3 v5 (v5 + 1))
    else
      if v3 = 0 then
        (K17 x v1 v2 v3 v4 (v5 + 1))
      else
        (f_La_isNearer x v5 v4 v2).bind fun w8 =>
        if w8 = 0 then
          (K17 x v1 v2 v3 v4 (v5 + 1))
        else
          (K17 x v1 v2 v3 v5 (v5 + 1))
def f_La_nextFrom_J53 (K17 : q_W → Int32 → Int32 → Int32 → Int32 → Int32 → Option Int32) (x : q_W) (v1 : Int32) (v2 : Int32) (v3 : Int32) (v4 : Int32) (v5 : Int32) : Option Int32 :=
  (f_La_nextFrom_J54 K17 x v1 v2 v3 v4 v5 0)
def f_La_nextFrom_L17 : Nat → q_W → Int32 → Int32 → Int32 → Int32 → Int32 → Option Int32
  | 0 => fun _ _ _ _ _ _ => none
  | n + 1 => fun x v1 v2 v3 v4 v5 =>
    if x.2 3 7 ≤ v5 then
      some v4
    else
      (q_ld x 8 256 v5).bind fun w3 =>
      if w3 = 0 then
        (f_La_nextFrom_J53 (f_La_nextFrom_L17  n) x v1 v2 v3 v4 v5)
      else
        (q_ld x 4 256 v5).bind fun w4 =>
        if ¬ w4 = (v1 >>> (3 &&& 31)) then
          (f_La_nextFrom_J53 (f_La_nextFrom_L17  n) x v1 v2 v3 v4 v5)
        else
          (f_La_nextFrom_J54 (f_La_nextFrom_L17  n) x v1 v2 v3 v4 v5 1)
def f_La_nextFrom (x : q_W) (a1 : Int32) (a2 : Int32) : Option Int32 :=
  (q_ld x 6 256 a1).bind fun w1 =>
  (f_D_hasBit x w1 a2).bind fun w2 =>
  (f_La_nextFrom_L17  q_fu x a1 a2 w2 (-1) 0)
def f_Ar_fill_L5 : Nat → q_W → Int32 → Int32 → Int32 → Option q_W
  | 0 => fun _ _ _ _ => none
  | n + 1 => fun x v1 v2 v3 =>
    if v3 ≤ v2 then
      some x
    else
      (q_sto x 13 1280 v2 v1).bind fun x1 =>
      ((f_Ar_fill_L5  n) x1 v1 (v2 + 1) v3)
def f_Ar_fill (x : q_W) (a1 : Int32) : Option q_W :=
  (f_Ar_fill_L5  q_fu x a1 0 1280)
def f_Wa_go_L28 : Nat → q_W → Int32 → Int32 → Int32 → Option q_W
  | 0 => fun _ _ _ _ => none
  | n + 1 => fun x v2 v3 v4 =>
    if 1280 < v4 then
      some x
    else
      if v2 = (-1) then
        some x
      else
        (f_La_dutyFrom x v2 v3).bind fun w5 =>
        q_let (((v2 * 5) + w5)) fun z6 =>
        (q_ld x 13 1280 z6).bind fun w7 =>
        if w7 = (-1) then
          (q_sto x 13 1280 z6 v4).bind fun x8 =>
          (q_sto x8 12 1281 v4 v2).bind fun x9 =>
          (f_La_nextFrom x9 v2 w5).bind fun w10 =>
          ((f_Wa_go_L28  n) x9 w10 w5 (v4 + 1))
        else
          (q_ld x 13 1280 z6).bind fun w11 =>
          q_let (q_wr x 11 2 w11) fun x12 =>
          q_let (q_wr x12 11 3 (v4 - (x12.2 11 2))) fun x13 =>
          some x13
def f_Wa_go (x : q_W) : Option q_W :=
  q_let (q_wr x 11 2 (-1)) fun x1 =>
  q_let (q_wr x1 11 3 (-1)) fun x2 =>
  (f_Ar_fill x2 (-1)).bind fun x3 =>
  (f_La_leastWhole x3).bind fun w4 =>
  (f_Wa_go_L28  q_fu x3 w4 0 0)
def f_D_settle (c d : Nat) (x : q_W) : Option q_W :=
  if ¬ x.2 0 7 = 0 then
    some x
  else
    (f_La_find c x).bind fun x1 =>
    (f_Wa_go x1).bind fun x2 =>
    q_let (q_wr x2 0 7 1) fun x3 =>
    some x3
def f_La_has (x : q_W) (a1 : Int32) : Option Int32 :=
  (q_ld x 8 256 a1).bind fun w1 =>
  some (q_nb w1)
def f_D_lasts (c d : Nat) (x : q_W) (a1 : Int32) : Option ((Int32 ⊕ Nat) × q_W) :=
  q_tp (f_D_requireFormula c d x) x fun w1 =>
  q_tp (f_D_requireState c d x a1) x fun w3 =>
  (f_D_settle c d x).bind fun x5 =>
  (f_La_has x5 a1).bind fun w6 =>
  some (.inl (q_nb w6), x5)
def f_La_size (x : q_W) : Option Int32 :=
  some (x.2 3 9)
def f_D_lasting (c d : Nat) (x : q_W) : Option ((Int32 ⊕ Nat) × q_W) :=
  q_tp (f_D_requireFormula c d x) x fun w1 =>
  (f_D_settle c d x).bind fun x3 =>
  (f_La_size x3).bind fun w4 =>
  some (.inl w4, x3)
def f_D_promises (c d : Nat) (x : q_W) : Option (Int32 ⊕ Nat) :=
  q_tpp (f_D_requireFormula c d x) fun w1 =>
  (f_Fo_promiseCount c x).bind fun w3 =>
  some (.inl w3)
def f_Wa_exists (x : q_W) : Option Int32 :=
  if x.2 11 2 = (-1) then
    some (q_nb 0)
  else
    some (q_nb 1)
def f_D_can (c d : Nat) (x : q_W) : Option ((Int32 ⊕ Nat) × q_W) :=
  q_tp (f_D_requireFormula c d x) x fun w1 =>
  (f_D_settle c d x).bind fun x3 =>
  (f_Wa_exists x3).bind fun w4 =>
  some (.inl (q_nb w4), x3)
def f_Wa_stemLength (x : q_W) : Option Int32 :=
  some (x.2 11 2)
def f_D_stem (c d : Nat) (x : q_W) : Option ((Int32 ⊕ Nat) × q_W) :=
  q_tp (f_D_requireFormula c d x) x fun w1 =>
  (f_D_settle c d x).bind fun x3 =>
  (f_Wa_stemLength x3).bind fun w4 =>
  some (.inl w4, x3)
def f_Wa_loopLength (x : q_W) : Option Int32 :=
  some (x.2 11 3)
def f_D_loop (c d : Nat) (x : q_W) : Option ((Int32 ⊕ Nat) × q_W) :=
  q_tp (f_D_requireFormula c d x) x fun w1 =>
  (f_D_settle c d x).bind fun x3 =>
  (f_Wa_loopLength x3).bind fun w4 =>
  some (.inl w4, x3)
def f_Wa_size (x : q_W) : Option Int32 :=
  (f_Wa_exists x).bind fun w1 =>
  if w1 = 0 then
    some 0
  else
    some ((x.2 11 2) + (x.2 11 3))
def f_Wa_stateAt (x : q_W) (a1 : Int32) : Option Int32 :=
  (q_ld x 12 1281 a1).bind fun w1 =>
  some w1
def f_D_step (c d : Nat) (x : q_W) (a1 : Int32) : Option ((Int32 ⊕ Nat) × q_W) :=
  q_tp (f_D_requireFormula c d x) x fun w1 =>
  (f_D_settle c d x).bind fun x3 =>
  (f_Wa_exists x3).bind fun w4 =>
  if ¬ w4 = 0 then
    if a1 < 0 then
      some (.inr 2, x3)
    else
      (f_Wa_size x3).bind fun w5 =>
      if a1 < w5 then
        (f_Wa_stateAt x3 a1).bind fun w6 =>
        some (.inl w6, x3)
      else
        some (.inr 2, x3)
  else
    some (.inr 1, x3)
def f_Gw_fits (x : q_W) (a0 : Int32) (a1 : Int32) : Option Int32 :=
  if a0 < 0 then
    some (q_nb 0)
  else
    if 8 < a0 then
      some (q_nb 0)
    else
      if a1 < 1 then
        some (q_nb 0)
      else
        if 8 < a1 then
          some (q_nb 0)
        else
          some (q_nb 1)
def f_Gw_size (x : q_W) : Option Int32 :=
  some ((x.2 14 1) + (x.2 14 2))
def f_Gw_reshape_L15 : Nat → q_W → Int32 → Option q_W
  | 0 => fun _ _ => none
  | n + 1 => fun x v3 =>
    if 16 ≤ v3 then
      some x
    else
      (q_sto x 15 16 v3 0).bind fun x4 =>
      ((f_Gw_reshape_L15  n) x4 (v3 + 1))
def f_Gw_reshape (x : q_W) (a1 : Int32) (a2 : Int32) : Option q_W :=
  q_let (q_wr x 14 1 a1) fun x1 =>
  q_let (q_wr x1 14 2 a2) fun x2 =>
  (f_Gw_size x2).bind fun w3 =>
  (f_Gw_reshape_L15  q_fu x2 w3)
def f_D_shape (c d : Nat) (x : q_W) (a1 : Int32) (a2 : Int32) : Option ((Int32 ⊕ Nat) × q_W) :=
  (f_Gw_fits x a1 a2).bind fun w1 =>
  if ¬ w1 = 0 then
    (f_Gw_reshape x a1 a2).bind fun x2 =>
    some (.inl 0, x2)
  else
    some (.inr 0, x)
def f_Gw_replace (x : q_W) (a1 : Int32) (a2 : Int32) : Option (Int32 × q_W) :=
  (q_ld x 15 16 a1).bind fun w1 =>
  (q_sto x 15 16 a1 (a2 &&& 7)).bind fun x2 =>
  some (w1, x2)
def f_D_set (c d : Nat) (x : q_W) (a1 : Int32) (a2 : Int32) : Option ((Int32 ⊕ Nat) × q_W) :=
  if a1 < 0 then
    some (.inr 2, x)
  else
    (f_Gw_size x).bind fun w1 =>
    if a1 < w1 then
      (f_Gw_replace x a1 a2).bind fun q2 =>
      some (.inl q2.1, q2.2)
    else
      some (.inr 2, x)
def f_Gw_take_L14 : Nat → q_W → Int32 → Option q_W
  | 0 => fun _ _ => none
  | n + 1 => fun x v2 =>
    (f_Gw_size x).bind fun w4 =>
    if w4 ≤ v2 then
      some x
    else
      (f_Wa_stateAt x v2).bind fun w5 =>
      (q_sto x 15 16 v2 (w5 &&& 7)).bind fun x6 =>
      ((f_Gw_take_L14  n) x6 (v2 + 1))
def f_Gw_take (x : q_W) : Option q_W :=
  (f_Wa_stemLength x).bind fun w1 =>
  (f_Wa_loopLength x).bind fun w2 =>
  (f_Gw_reshape x w1 w2).bind fun x3 =>
  (f_Gw_take_L14  q_fu x3 0)
def f_D_adopt (c d : Nat) (x : q_W) : Option ((Int32 ⊕ Nat) × q_W) :=
  q_tp (f_D_requireFormula c d x) x fun w1 =>
  (f_D_settle c d x).bind fun x3 =>
  (f_Wa_exists x3).bind fun w4 =>
  if w4 = 0 then
    some (.inl (q_nb 0), x3)
  else
    (f_Wa_stemLength x3).bind fun w5 =>
    (f_Wa_loopLength x3).bind fun w6 =>
    (f_Gw_fits x3 w5 w6).bind fun w7 =>
    if ¬ w7 = 0 then
      (f_Gw_take x3).bind fun x8 =>
      some (.inl (q_nb 1), x8)
    else
      some (.inl (q_nb 0), x3)
def f_D_requirePlace (c d : Nat) (x : q_W) (a1 : Int32) : Option (Int32 ⊕ Nat) :=
  if 0 ≤ a1 then
    some (.inl 0)
  else
    some (.inr 2)
def f_Gw_indexOf (x : q_W) (a1 : Int32) : Option Int32 :=
  (f_Gw_size x).bind fun w1 =>
  if a1 < w1 then
    some a1
  else
    if 1 ≤ x.2 14 2 then
      if x.2 14 2 = 0 then none else
      some ((x.2 14 1) + ((a1 - (x.2 14 1)) - (a1 - (x.2 14 1)) / (x.2 14 2) * (x.2 14 2)))
    else
      some a1
def f_Gw_letterAt (x : q_W) (a1 : Int32) : Option Int32 :=
  (f_Gw_indexOf x a1).bind fun w1 =>
  (q_ld x 15 16 w1).bind fun w2 =>
  some w2
def f_D_letter (c d : Nat) (x : q_W) (a1 : Int32) : Option (Int32 ⊕ Nat) :=
  q_tpp (f_D_requirePlace c d x a1) fun w1 =>
  (f_Gw_letterAt x a1).bind fun w3 =>
  some (.inl w3)
def f_Gw_allPlaces (x : q_W) : Option Int32 :=
  (f_Gw_size x).bind fun w1 =>
  some ((1 <<< (w1 &&& 31)) - 1)
def f_Gw_placesBefore (x : q_W) (a1 : Int32) : Option Int32 :=
  (f_D_hasBit x a1 (x.2 14 1)).bind fun w1 =>
  if w1 = 0 then
    some ((a1 >>> (1 &&& 31)) ||| 0)
  else
    (f_Gw_size x).bind fun w2 =>
    q_let ((1 <<< ((w2 - 1) &&& 31))) fun z3 =>
    some ((a1 >>> (1 &&& 31)) ||| z3)
def f_Gw_placesUntil_L5 : Nat → q_W → Int32 → Int32 → Int32 → Int32 → Option Int32
  | 0 => fun _ _ _ _ _ => none
  | n + 1 => fun x v1 v2 v3 v4 =>
    (f_Gw_size x).bind fun w1 =>
    if w1 ≤ v4 then
      some v3
    else
      (f_Gw_placesBefore x v3).bind fun w2 =>
      q_let ((v2 ||| (v1 &&& w2))) fun z3 =>
      ((f_Gw_placesUntil_L5  n) x v1 v2 z3 (v4 + 1))
def f_Gw_placesUntil (x : q_W) (a1 : Int32) (a2 : Int32) : Option Int32 :=
  (f_Gw_placesUntil_L5  q_fu x a1 a2 a2 0)
def f_Gw_placesWith_L4 : Nat → q_W → Int32 → Int32 → Int32 → Option Int32
  | 0 => fun _ _ _ _ => none
  | n + 1 => fun x v1 v2 v3 =>
    (f_Gw_size x).bind fun w1 =>
    if w1 ≤ v3 then
      some v2
    else
      (q_ld x 15 16 v3).bind fun w2 =>
      (f_D_hasBit x w2 v1).bind fun w3 =>
      if w3 = 0 then
        ((f_Gw_placesWith_L4  n) x v1 v2 (v3 + 1))
      else
        q_let ((v2 ||| (1 <<< (v3 &&& 31)))) fun z4 =>
        ((f_Gw_placesWith_L4  n) x v1 z4 (v3 + 1))
def f_Gw_placesWith (x : q_W) (a1 : Int32) : Option Int32 :=
  (f_Gw_placesWith_L4  q_fu x a1 0 0)
def f_Fo_partPlaces (f : Nat) (x : q_W) (a1 : Int32) : Option Int32 :=
  (f_Gw_allPlaces x).bind fun w1 =>
  (q_ld x (f + 2) 18 a1).bind fun w2 =>
  (q_ld x (f + 7) 18 w2).bind fun w3 =>
  (q_ld x (f + 3) 18 a1).bind fun w4 =>
  (q_ld x (f + 7) 18 w4).bind fun w5 =>
  (q_ld x (f + 1) 18 a1).bind fun w6 =>
  if w6 = 33 then
    some (w1 &&& (w5 ^^^ (-1)))
  else if w6 = 38 then
    some (w3 &&& w5)
  else if w6 = 49 then
    some w1
  else if w6 = 62 then
    some ((w1 &&& (w3 ^^^ (-1))) ||| w5)
  else if w6 = 70 then
    (f_Gw_placesUntil x w1 w5).bind fun w12 =>
    some w12
  else if w6 = 71 then
    (f_Gw_placesUntil x w1 (w1 &&& (w5 ^^^ (-1)))).bind fun w14 =>
    some (w1 &&& (w14 ^^^ (-1)))
  else if w6 = 82 then
    (f_Gw_placesUntil x (w1 &&& (w3 ^^^ (-1))) (w1 &&& (w5 ^^^ (-1)))).bind fun w16 =>
    some (w1 &&& (w16 ^^^ (-1)))
  else if w6 = 85 then
    (f_Gw_placesUntil x w3 w5).bind fun w18 =>
    some w18
  else if w6 = 88 then
    (f_Gw_placesBefore x w5).bind fun w20 =>
    some w20
  else if w6 = 97 then
    (f_Gw_placesWith x 0).bind fun w22 =>
    some w22
  else if w6 = 98 then
    (f_Gw_placesWith x 1).bind fun w24 =>
    some w24
  else if w6 = 99 then
    (f_Gw_placesWith x 2).bind fun w26 =>
    some w26
  else if w6 = 124 then
    some (w3 ||| w5)
  else 
    some 0
def f_Fo_placesOn_L2 (f : Nat) (E2 : q_W → Option (Int32 × q_W)) : Nat → q_W → Int32 → Option (Int32 × q_W)
  | 0 => fun _ _ => none
  | n + 1 => fun x v2 =>
    if x.2 f 7 ≤ v2 then
      (E2 x )
    else
      (f_Fo_partPlaces f x v2).bind fun w4 =>
      (q_sto x (f + 7) 18 v2 w4).bind fun x5 =>
      ((f_Fo_placesOn_L2 f E2 n) x5 (v2 + 1))
def f_Fo_placesOn (f : Nat) (x : q_W) : Option (Int32 × q_W) :=
  (f_Fo_placesOn_L2 f (fun x1 => if ¬ x1.2 f 7 = 0 then
    (q_ld x1 (f + 7) 18 ((x1.2 f 7) - 1)).bind fun w2 =>
    some (w2, x1)
  else
    some (0, x1)) q_fu x 0)
def f_D_holds (c d : Nat) (x : q_W) (a1 : Int32) : Option ((Int32 ⊕ Nat) × q_W) :=
  q_tp (f_D_requireFormula c d x) x fun w1 =>
  q_tp (f_D_requirePlace c d x a1) x fun w3 =>
  (f_Fo_placesOn c x).bind fun q5 =>
  (f_Gw_indexOf q5.2 a1).bind fun w6 =>
  (f_D_hasBit q5.2 q5.1 w6).bind fun w7 =>
  some (.inl (q_nb w7), q5.2)
def f_Mo_thrown (x : q_W) : Option Int32 :=
  some (x.2 32 0)
def f_Mo_type_L127 : Nat → q_W → Int32 → Int32 → Int32 → Option (Int32 × q_W)
  | 0 => fun _ _ _ _ => none
  | n + 1 => fun x v1 v2 v5 =>
    if v2 ≤ v5 then
      some ((q_nb 1), x)
    else
      (q_sto x 33 18 (x.2 32 2) ((v1 >>> ((8 * v5) &&& 31)) &&& 255)).bind fun x13 =>
      q_let (q_wr x13 32 2 ((x13.2 32 2) + 1)) fun x14 =>
      ((f_Mo_type_L127  n) x14 v1 v2 (v5 + 1))
def f_Mo_type_J103 (x : q_W) (v1 : Int32) (v2 : Int32) (v4 : Int32) (s0 : Int32) : Option (Int32 × q_W) :=
  q_let (q_wr x 32 0 s0) fun x6 =>
  if ¬ v4 = 0 then
    some ((q_nb 0), x6)
  else
    if ((x6.2 32 2) + v2) ≤ 18 then
      (f_Mo_type_L127  q_fu x6 v1 v2 0)
    else
      some ((q_nb 0), x6)
def f_Mo_type_J72 (K10 : q_W → Int32 → Int32 → Int32 → Int32 → Int32 → Option (Int32 × q_W)) (E10 : q_W → Int32 → Int32 → Int32 → Option (Int32 × q_W)) (x : q_W) (v1 : Int32) (v2 : Int32) (v3 : Int32) (v5 : Int32) (s0 : Int32) : Option (Int32 × q_W) :=
  if v3 = 0 then
    (K10 x v1 v2 v3 s0 (v5 + 1))
  else
    q_let ((v2 + 1)) fun z20 =>
    (K10 x v1 z20 v3 s0 (v5 + 1))
def f_Mo_type_J71 (K10 : q_W → Int32 → Int32 → Int32 → Int32 → Int32 → Option (Int32 × q_W)) (E10 : q_W → Int32 → Int32 → Int32 → Option (Int32 × q_W)) (x : q_W) (v1 : Int32) (v2 : Int32) (v3 : Int32) (v5 : Int32) : Option (Int32 × q_W) :=
  (f_Mo_type_J72 K10 E10 x v1 v2 v3 v5 0)
def f_Mo_type_J67 (K10 : q_W → Int32 → Int32 → Int32 → Int32 → Int32 → Option (Int32 × q_W)) (E10 : q_W → Int32 → Int32 → Int32 → Option (Int32 × q_W)) (x : q_W) (v1 : Int32) (v2 : Int32) (v3 : Int32) (v5 : Int32) : Option (Int32 × q_W) :=
  (f_Mo_type_J72 K10 E10 x v1 v2 v3 v5 1)
def f_Mo_type_J43 (K10 : q_W → Int32 → Int32 → Int32 → Int32 → Int32 → Option (Int32 × q_W)) (E10 : q_W → Int32 → Int32 → Int32 → Option (Int32 × q_W)) (x : q_W) (v1 : Int32) (v2 : Int32) (v4 : Int32) (v5 : Int32) (v6 : Int32) (s0 : Int32) : Option (Int32 × q_W) :=
  if ¬ v4 = 0 then
    (f_Mo_type_J67 K10 E10 x v1 v2 s0 v5)
  else
    if s0 = 0 then
      (f_Mo_type_J71 K10 E10 x v1 v2 s0 v5)
    else
      if v6 < 33 then
        (f_Mo_type_J67 K10 E10 x v1 v2 s0 v5)
      else
        if v6 ≤ 126 then
          (f_Mo_type_J71 K10 E10 x v1 v2 s0 v5)
        else
          (f_Mo_type_J67 K10 E10 x v1 v2 s0 v5)
def f_Mo_type_J42 (K10 : q_W → Int32 → Int32 → Int32 → Int32 → Int32 → Option (Int32 × q_W)) (E10 : q_W → Int32 → Int32 → Int32 → Option (Int32 × q_W)) (x : q_W) (v1 : Int32) (v2 : Int32) (v4 : Int32) (v5 : Int32) (v6 : Int32) : Option (Int32 × q_W) :=
  (f_Mo_type_J43 K10 E10 x v1 v2 v4 v5 v6 0)
def f_Mo_type_L10 (E10 : q_W → Int32 → Int32 → Int32 → Option (Int32 × q_W)) : Nat → q_W → Int32 → Int32 → Int32 → Int32 → Int32 → Option (Int32 × q_W)
  | 0 => fun _ _ _ _ _ _ => none
  | n + 1 => fun x v1 v2 v3 v4 v5 =>
    if 4 ≤ v5 then
      (E10 x v1 v2 v4)
    else
      q_let (((v1 >>> ((8 * v5) &&& 31)) &&& 255)) fun z9 =>
      if v3 = 0 then
        (f_Mo_type_J42 (f_Mo_type_L10 E10 n) E10 x v1 v2 v4 v5 z9)
      else
        if z9 = 0 then
          (f_Mo_type_J42 (f_Mo_type_L10 E10 n) E10 x v1 v2 v4 v5 z9)
        else
          (f_Mo_type_J43 (f_Mo_type_L10 E10 n) E10 x v1 v2 v4 v5 z9 1)
def f_Mo_type (x : q_W) (a1 : Int32) : Option (Int32 × q_W) :=
  (f_Mo_type_L10 (fun x1 u2 u3 u4 => if u4 = 0 then
    (f_Mo_type_J103  x1 u2 u3 u4 0)
  else
    (f_Mo_type_J103  x1 u2 u3 u4 1)) q_fu x a1 0 1 0 0)
def f_Mo_tightness (x : q_W) (a0 : Int32) : Option Int32 :=
  if 9 ≤ a0 then
    if 11 ≤ a0 then
      if ¬ a0 = 11 then
        if ¬ a0 = 12 then
          if ¬ a0 = 13 then
            some 0
          else
            some 1
        else
          some 2
      else
        some 3
    else
      some 4
  else
    some 5
def f_Mo_isTemporal (x : q_W) (a0 : Int32) : Option Int32 :=
  if a0 < 6 then
    some (q_nb 0)
  else
    if 10 < a0 then
      some (q_nb 0)
    else
      some (q_nb 1)
def f_Mo_part (x : q_W) (a1 : Int32) (a2 : Int32) (a3 : Int32) (a4 : Int32) : Option q_W :=
  (q_sto x 40 18 (x.2 32 13) a1).bind fun x1 =>
  (q_sto x1 43 18 (x1.2 32 13) a2).bind fun x2 =>
  (q_sto x2 41 18 (x2.2 32 13) a3).bind fun x3 =>
  (q_sto x3 42 18 (x3.2 32 13) a4).bind fun x4 =>
  (q_sto x4 44 18 (x4.2 32 20) (x4.2 32 13)).bind fun x5 =>
  q_let (q_wr x5 32 20 ((x5.2 32 20) + 1)) fun x6 =>
  q_let (q_wr x6 32 13 ((x6.2 32 13) + 1)) fun x7 =>
  some x7
def f_Mo_taken (x : q_W) : Option (Int32 × q_W) :=
  q_let (q_wr x 32 20 ((x.2 32 20) - 1)) fun x1 =>
  (q_ld x1 44 18 (x1.2 32 20)).bind fun w2 =>
  some (w2, x1)
def f_Mo_settle_J70 (K0 : q_W → Int32 → Option q_W) (x : q_W) (v1 : Int32) (v2 : Int32) (v3 : Int32) (s0 : Int32) : Option q_W :=
  (q_ld x 45 18 (x.2 32 22)).bind fun w11 =>
  (f_Mo_part x v2 (w11 >>> (4 &&& 31)) s0 v3).bind fun x12 =>
  (K0 x12 v1)
def f_Mo_settle_L0 : Nat → q_W → Int32 → Option q_W
  | 0 => fun _ _ => none
  | n + 1 => fun x v1 =>
    if x.2 32 22 ≤ 0 then
      some x
    else
      (q_ld x 45 18 ((x.2 32 22) - 1)).bind fun w1 =>
      (f_Mo_tightness x (w1 &&& 15)).bind fun w2 =>
      if w2 < v1 then
        some x
      else
        q_let (q_wr x 32 22 ((x.2 32 22) - 1)) fun x3 =>
        (q_ld x3 45 18 (x3.2 32 22)).bind fun w4 =>
        q_let ((w4 &&& 15)) fun z5 =>
        (f_Mo_taken x3).bind fun q6 =>
        if 9 ≤ z5 then
          (f_Mo_taken q6.2).bind fun q7 =>
          (f_Mo_settle_J70 (f_Mo_settle_L0  n) q7.2 v1 z5 q6.1 q7.1)
        else
          (f_Mo_settle_J70 (f_Mo_settle_L0  n) q6.2 v1 z5 q6.1 q6.1)
def f_Mo_settle (x : q_W) (a1 : Int32) : Option q_W :=
  (f_Mo_settle_L0  q_fu x a1)
def f_Mo_push (x : q_W) (a1 : Int32) : Option q_W :=
  (q_sto x 45 18 (x.2 32 22) (a1 + (16 * (x.2 32 18)))).bind fun x1 =>
  q_let (q_wr x1 32 22 ((x1.2 32 22) + 1)) fun x2 =>
  (f_Mo_isTemporal x2 a1).bind fun w3 =>
  if w3 = 0 then
    q_let (q_wr x2 32 18 (x2.2 32 18)) fun x4 =>
    some x4
  else
    q_let (q_wr x2 32 18 ((x2.2 32 18) + 1)) fun x5 =>
    some x5
def f_Mo_leafOf (x : q_W) (a0 : Int32) : Option Int32 :=
  if ¬ a0 = 48 then
    if ¬ a0 = 49 then
      if a0 < 97 then
        some (-1)
      else
        if 99 < a0 then
          some (-1)
        else
          some ((2 + a0) - 97)
    else
      some 1
  else
    some 0
def f_Mo_prefixOf (x : q_W) (a0 : Int32) : Option Int32 :=
  if ¬ a0 = 33 then
    if ¬ a0 = 88 then
      if ¬ a0 = 70 then
        if ¬ a0 = 71 then
          some (-1)
        else
          some 8
      else
        some 7
    else
      some 6
  else
    some 5
def f_Mo_signOf (x : q_W) (a0 : Int32) : Option Int32 :=
  if ¬ a0 = 85 then
    if ¬ a0 = 82 then
      if ¬ a0 = 38 then
        if ¬ a0 = 124 then
          if ¬ a0 = 62 then
            some (-1)
          else
            some 13
        else
          some 12
      else
        some 11
    else
      some 10
  else
    some 9
def f_Mo_reads_J310 (x : q_W) (v3 : Int32) (v4 : Int32) : Option (Int32 × q_W) :=
  if v4 = 0 then
    some ((q_nb 0), x)
  else
    if v3 = 0 then
      some ((q_nb 0), x)
    else
      if ¬ x.2 32 22 = 0 then
        some ((q_nb 0), x)
      else
        if 6 ≤ x.2 32 18 then
          some ((q_nb 0), x)
        else
          some ((q_nb 1), x)
def f_Mo_reads_J296 (x : q_W) (v3 : Int32) (v4 : Int32) : Option (Int32 × q_W) :=
  if v4 = 0 then
    (f_Mo_reads_J310  x v3 v4)
  else
    if v3 = 0 then
      (f_Mo_reads_J310  x v3 v4)
    else
      (f_Mo_settle x 1).bind fun x8 =>
      (f_Mo_reads_J310  x8 v3 v4)
def f_Mo_reads_J285 (K30 : q_W → Int32 → Int32 → Int32 → Int32 → Int32 → Option (Int32 × q_W)) (E30 : q_W → Int32 → Int32 → Option (Int32 × q_W)) (x : q_W) (v1 : Int32) (v2 : Int32) (v4 : Int32) (v5 : Int32) (s0 : Int32) : Option (Int32 × q_W) :=
  (f_Mo_push x s0).bind fun x44 =>
  (K30 x44 v1 v2 0 v4 (v5 + 1))
def f_Mo_reads_J270 (K30 : q_W → Int32 → Int32 → Int32 → Int32 → Int32 → Option (Int32 × q_W)) (E30 : q_W → Int32 → Int32 → Option (Int32 × q_W)) (x : q_W) (v1 : Int32) (v2 : Int32) (v4 : Int32) (v5 : Int32) (v7 : Int32) (s0 : Int32) : Option (Int32 × q_W) :=
  (f_Mo_settle x s0).bind fun x39 =>
  if v4 = 0 then
    (f_Mo_reads_J285 K30 E30 x39 v1 v2 v4 v5 5)
  else
    (f_Mo_reads_J285 K30 E30 x39 v1 v2 v4 v5 v7)
def f_Mo_reads_J265 (K30 : q_W → Int32 → Int32 → Int32 → Int32 → Int32 → Option (Int32 × q_W)) (E30 : q_W → Int32 → Int32 → Option (Int32 × q_W)) (x : q_W) (v1 : Int32) (v2 : Int32) (v4 : Int32) (v5 : Int32) (v7 : Int32) : Option (Int32 × q_W) :=
  (f_Mo_reads_J270 K30 E30 x v1 v2 v4 v5 v7 2)
def f_Mo_reads_J237 (K30 : q_W → Int32 → Int32 → Int32 → Int32 → Int32 → Option (Int32 × q_W)) (E30 : q_W → Int32 → Int32 → Option (Int32 × q_W)) (x : q_W) (v1 : Int32) (v2 : Int32) (v5 : Int32) (v7 : Int32) (s0 : Int32) : Option (Int32 × q_W) :=
  if ¬ v7 = 11 then
    if v7 = 12 then
      (f_Mo_reads_J265 K30 E30 x v1 v2 s0 v5 v7)
    else
      if ¬ v7 = 13 then
        (f_Mo_reads_J270 K30 E30 x v1 v2 s0 v5 v7 5)
      else
        (f_Mo_reads_J265 K30 E30 x v1 v2 s0 v5 v7)
  else
    (f_Mo_reads_J270 K30 E30 x v1 v2 s0 v5 v7 3)
def f_Mo_reads_J211 (K30 : q_W → Int32 → Int32 → Int32 → Int32 → Int32 → Option (Int32 × q_W)) (E30 : q_W → Int32 → Int32 → Option (Int32 × q_W)) (x : q_W) (v1 : Int32) (v2 : Int32) (v3 : Int32) (v4 : Int32) (v5 : Int32) (s0 : Int32) : Option (Int32 × q_W) :=
  q_let (q_wr x 32 22 s0) fun x41 =>
  (K30 x41 v1 (v2 + (-1)) v3 v4 (v5 + 1))
def f_Mo_reads_J193 (K30 : q_W → Int32 → Int32 → Int32 → Int32 → Int32 → Option (Int32 × q_W)) (E30 : q_W → Int32 → Int32 → Option (Int32 × q_W)) (x : q_W) (v1 : Int32) (v2 : Int32) (v3 : Int32) (v5 : Int32) (s0 : Int32) : Option (Int32 × q_W) :=
  if s0 = 0 then
    (f_Mo_reads_J211 K30 E30 x v1 v2 v3 s0 v5 0)
  else
    (f_Mo_reads_J211 K30 E30 x v1 v2 v3 s0 v5 ((x.2 32 22) - 1))
def f_Mo_reads_J163 (K30 : q_W → Int32 → Int32 → Int32 → Int32 → Int32 → Option (Int32 × q_W)) (E30 : q_W → Int32 → Int32 → Option (Int32 × q_W)) (x : q_W) (v1 : Int32) (v2 : Int32) (v3 : Int32) (v4 : Int32) (v5 : Int32) (s0 : Int32) : Option (Int32 × q_W) :=
  (f_Mo_push x s0).bind fun x45 =>
  (K30 x45 v1 v2 v3 v4 (v5 + 1))
def f_Mo_reads_J146 (K30 : q_W → Int32 → Int32 → Int32 → Int32 → Int32 → Option (Int32 × q_W)) (E30 : q_W → Int32 → Int32 → Option (Int32 × q_W)) (x : q_W) (v1 : Int32) (v2 : Int32) (v3 : Int32) (v5 : Int32) (v6 : Int32) (s0 : Int32) : Option (Int32 × q_W) :=
  if s0 = 0 then
    (f_Mo_reads_J163 K30 E30 x v1 v2 v3 s0 v5 5)
  else
    (f_Mo_prefixOf x v6).bind fun w42 =>
    (f_Mo_reads_J163 K30 E30 x v1 v2 v3 s0 v5 w42)
def f_Mo_reads_J67 (K30 : q_W → Int32 → Int32 → Int32 → Int32 → Int32 → Option (Int32 × q_W)) (E30 : q_W → Int32 → Int32 → Option (Int32 × q_W)) (x : q_W) (v1 : Int32) (v2 : Int32) (v4 : Int32) (v5 : Int32) (v6 : Int32) (s0 : Int32) : Option (Int32 × q_W) :=
  if s0 = 0 then
    if ¬ v6 = 40 then
      (f_Mo_prefixOf x v6).bind fun w30 =>
      if w30 < 0 then
        (f_Mo_reads_J146 K30 E30 x v1 v2 s0 v5 v6 0)
      else
        (f_Mo_reads_J146 K30 E30 x v1 v2 s0 v5 v6 1)
    else
      (q_sto x 45 18 (x.2 32 22) 14).bind fun x32 =>
      q_let (q_wr x32 32 22 ((x32.2 32 22) + 1)) fun x33 =>
      if 5 ≤ (v2 + 1) then
        (K30 x33 v1 (v2 + 1) s0 0 (v5 + 1))
      else
        (K30 x33 v1 (v2 + 1) s0 1 (v5 + 1))
  else
    (f_Mo_leafOf x v6).bind fun w36 =>
    (f_Mo_part x w36 0 (-1) (-1)).bind fun x37 =>
    (K30 x37 v1 v2 s0 v4 (v5 + 1))
def f_Mo_reads_L30 (E30 : q_W → Int32 → Int32 → Option (Int32 × q_W)) : Nat → q_W → Int32 → Int32 → Int32 → Int32 → Int32 → Option (Int32 × q_W)
  | 0 => fun _ _ _ _ _ _ => none
  | n + 1 => fun x v1 v2 v3 v4 v5 =>
    if v1 ≤ v5 then
      (E30 x v3 v4)
    else
      if v4 = 0 then
        (E30 x v3 v4)
      else
        (q_ld x 33 18 v5).bind fun w11 =>
        if ¬ v3 = 0 then
          if ¬ w11 = 41 then
            (f_Mo_signOf x w11).bind fun w12 =>
            if w12 < 0 then
              (f_Mo_reads_J237 (f_Mo_reads_L30 E30 n) E30 x v1 v2 v5 w12 0)
            else
              (f_Mo_reads_J237 (f_Mo_reads_L30 E30 n) E30 x v1 v2 v5 w12 1)
          else
            (f_Mo_settle x 1).bind fun x14 =>
            if x14.2 32 22 ≤ 0 then
              (f_Mo_reads_J193 (f_Mo_reads_L30 E30 n) E30 x14 v1 v2 v3 v5 0)
            else
              (f_Mo_reads_J193 (f_Mo_reads_L30 E30 n) E30 x14 v1 v2 v3 v5 1)
        else
          (f_Mo_leafOf x w11).bind fun w17 =>
          if w17 < 0 then
            (f_Mo_reads_J67 (f_Mo_reads_L30 E30 n) E30 x v1 v2 v4 v5 w11 0)
          else
            (f_Mo_reads_J67 (f_Mo_reads_L30 E30 n) E30 x v1 v2 v4 v5 w11 1)
def f_Mo_reads (x : q_W) (a1 : Int32) : Option (Int32 × q_W) :=
  q_let (q_wr x 32 13 0) fun x1 =>
  q_let (q_wr x1 32 18 0) fun x2 =>
  q_let (q_wr x2 32 20 0) fun x3 =>
  q_let (q_wr x3 32 22 0) fun x4 =>
  (f_Mo_reads_L30 (fun x5 u6 u7 => (f_Mo_reads_J296  x5 u6 u7)) q_fu x4 a1 0 0 1 0)
def f_Mo_count (x : q_W) : Option Int32 :=
  some (8 <<< ((x.2 32 9) &&& 31))
def f_Mo_leadsToOne (x : q_W) (a1 : Int32) : Option Int32 :=
  (q_ld x 53 32 (a1 >>> (3 &&& 31))).bind fun w1 =>
  some (q_nb w1)
def f_Mo_noteSome_J64 (K23 : q_W → Int32 → Option q_W) (x : q_W) (v1 : Int32) (s0 : Int32) : Option q_W :=
  (q_sto x 53 32 s0 (vp_nar .boolean 1)).bind fun x12 =>
  (K23 x12 (v1 + 1))
def f_Mo_noteSome_L23 : Nat → q_W → Int32 → Option q_W
  | 0 => fun _ _ => none
  | n + 1 => fun x v1 =>
    (f_Mo_count x).bind fun w3 =>
    if w3 ≤ v1 then
      some x
    else
      (q_ld x 46 256 v1).bind fun w4 =>
      (q_ld x 46 256 v1).bind fun w5 =>
      (q_ld x 53 32 w5).bind fun w6 =>
      if ¬ w6 = 0 then
        (f_Mo_noteSome_J64 (f_Mo_noteSome_L23  n) x v1 w4)
      else
        (q_ld x 52 256 v1).bind fun w7 =>
        if w7 = 0 then
          (q_sto x 53 32 w4 (vp_nar .boolean 0)).bind fun x8 =>
          ((f_Mo_noteSome_L23  n) x8 (v1 + 1))
        else
          (f_Mo_noteSome_J64 (f_Mo_noteSome_L23  n) x v1 w4)
def f_Mo_noteSome_L2 : Nat → q_W → Int32 → Option q_W
  | 0 => fun _ _ => none
  | n + 1 => fun x v1 =>
    if 32 ≤ v1 then
      (f_Mo_noteSome_L23  q_fu x 0)
    else
      (q_sto x 53 32 v1 (vp_nar .boolean 0)).bind fun x1 =>
      ((f_Mo_noteSome_L2  n) x1 (v1 + 1))
def f_Mo_noteSome (x : q_W) : Option q_W :=
  (f_Mo_noteSome_L2  q_fu x 0)
def f_Mo_countSteps_L120 (K60 : q_W → Int32 → Int32 → Int32 → Option q_W) : Nat → q_W → Int32 → Int32 → Int32 → Int32 → Option q_W
  | 0 => fun _ _ _ _ _ => none
  | n + 1 => fun x v1 v2 v3 v4 =>
    (f_Mo_count x).bind fun w16 =>
    if w16 ≤ v4 then
      (K60 x v1 v2 (v3 + 1))
    else
      (q_ld x 51 256 v4).bind fun w17 =>
      if w17 = 0 then
        ((f_Mo_countSteps_L120 K60 n) x v1 v2 v3 (v4 + 1))
      else
        (q_ld x 54 1280 ((256 * v1) + v4)).bind fun w18 =>
        if 0 ≤ w18 then
          ((f_Mo_countSteps_L120 K60 n) x v1 v2 v3 (v4 + 1))
        else
          (f_Mo_leadsToOne x v4).bind fun w19 =>
          if w19 = 0 then
            ((f_Mo_countSteps_L120 K60 n) x v1 v2 v3 (v4 + 1))
          else
            (q_sto x 54 1280 ((256 * v1) + v4) (v3 + 1)).bind fun x20 =>
            ((f_Mo_countSteps_L120 K60 n) x20 v1 1 v3 (v4 + 1))
def f_Mo_countSteps_L69 (K60 : q_W → Int32 → Int32 → Int32 → Option q_W) (E69 : q_W → Int32 → Int32 → Int32 → Option q_W) : Nat → q_W → Int32 → Int32 → Int32 → Int32 → Option q_W
  | 0 => fun _ _ _ _ _ => none
  | n + 1 => fun x v1 v2 v3 v4 =>
    (f_Mo_count x).bind fun w25 =>
    if w25 ≤ v4 then
      (E69 x v1 v2 v3)
    else
      (q_ld x 54 1280 ((256 * v1) + v4)).bind fun w26 =>
      if ¬ w26 = v3 then
        (q_sto x 52 256 v4 (vp_nar .boolean 0)).bind fun x27 =>
        ((f_Mo_countSteps_L69 K60 E69 n) x27 v1 v2 v3 (v4 + 1))
      else
        (q_sto x 52 256 v4 (vp_nar .boolean 1)).bind fun x28 =>
        ((f_Mo_countSteps_L69 K60 E69 n) x28 v1 v2 v3 (v4 + 1))
def f_Mo_countSteps_L60 : Nat → q_W → Int32 → Int32 → Int32 → Option q_W
  | 0 => fun _ _ _ _ => none
  | n + 1 => fun x v1 v2 v3 =>
    if v2 = 0 then
      some x
    else
      (f_Mo_countSteps_L69 (f_Mo_countSteps_L60  n) (fun x10 u11 u12 u13 => (f_Mo_noteSome x10).bind fun x14 =>
      (f_Mo_countSteps_L120 (f_Mo_countSteps_L60  n) q_fu x14 u11 u12 u13 0)) q_fu x v1 0 v3 0)
def f_Mo_countSteps_L2 : Nat → q_W → Int32 → Int32 → Option q_W
  | 0 => fun _ _ _ => none
  | n + 1 => fun x v1 v2 =>
    (f_Mo_count x).bind fun w1 =>
    if w1 ≤ v2 then
      (f_Mo_countSteps_L60  q_fu x v1 1 0)
    else
      (q_ld x 51 256 v2).bind fun w2 =>
      if w2 = 0 then
        (q_sto x 54 1280 ((256 * v1) + v2) (-1)).bind fun x3 =>
        ((f_Mo_countSteps_L2  n) x3 v1 (v2 + 1))
      else
        (q_ld x 49 256 v2).bind fun w4 =>
        if ¬ ((w4 >>> (v1 &&& 31)) &&& 1) = 1 then
          (q_sto x 54 1280 ((256 * v1) + v2) (-1)).bind fun x5 =>
          ((f_Mo_countSteps_L2  n) x5 v1 (v2 + 1))
        else
          (q_sto x 54 1280 ((256 * v1) + v2) 0).bind fun x6 =>
          ((f_Mo_countSteps_L2  n) x6 v1 (v2 + 1))
def f_Mo_countSteps (x : q_W) (a1 : Int32) : Option q_W :=
  (f_Mo_countSteps_L2  q_fu x a1 0)
def f_Mo_isDue (x : q_W) (a1 : Int32) (a2 : Int32) : Option Int32 :=
  (q_ld x 48 256 a2).bind fun w1 =>
  if ¬ ((w1 >>> (a1 &&& 31)) &&& 1) = 1 then
    some (q_nb 0)
  else
    (q_ld x 49 256 a2).bind fun w2 =>
    if ¬ ((w2 >>> (a1 &&& 31)) &&& 1) = 0 then
      some (q_nb 0)
    else
      some (q_nb 1)
def f_Mo_dutyAt_L2 : Nat → q_W → Int32 → Int32 → Int32 → Option Int32
  | 0 => fun _ _ _ _ => none
  | n + 1 => fun x v1 v2 v3 =>
    if x.2 32 11 ≤ v3 then
      some v2
    else
      if x.2 32 11 = 0 then none else
      q_let (((v2 + v3) - (v2 + v3) / (x.2 32 11) * (x.2 32 11))) fun z1 =>
      (f_Mo_isDue x z1 v1).bind fun w2 =>
      if w2 = 0 then
        ((f_Mo_dutyAt_L2  n) x v1 v2 (v3 + 1))
      else
        some z1
def f_Mo_dutyAt (x : q_W) (a1 : Int32) (a2 : Int32) : Option Int32 :=
  (f_Mo_dutyAt_L2  q_fu x a1 a2 0)
def f_Mo_firstState_L2 : Nat → q_W → Int32 → Option Int32
  | 0 => fun _ _ => none
  | n + 1 => fun x v1 =>
    (f_Mo_count x).bind fun w1 =>
    if w1 ≤ v1 then
      some (-1)
    else
      (q_ld x 51 256 v1).bind fun w2 =>
      if w2 = 0 then
        ((f_Mo_firstState_L2  n) x (v1 + 1))
      else
        (q_ld x 47 256 v1).bind fun w3 =>
        if w3 = 0 then
          ((f_Mo_firstState_L2  n) x (v1 + 1))
        else
          some v1
def f_Mo_firstState (x : q_W) : Option Int32 :=
  (f_Mo_firstState_L2  q_fu x 0)
def f_Mo_goes (x : q_W) (a1 : Int32) (a2 : Int32) : Option Int32 :=
  (q_ld x 46 256 a2).bind fun w1 =>
  if ¬ (a1 >>> (3 &&& 31)) = w1 then
    some (q_nb 0)
  else
    some (q_nb 1)
def f_Mo_nextOf_J62 (K32 : q_W → Int32 → Int32 → Int32 → Int32 → Int32 → Int32 → Option Int32) (x : q_W) (v1 : Int32) (v2 : Int32) (v3 : Int32) (v4 : Int32) (v5 : Int32) (v6 : Int32) (s0 : Int32) : Option Int32 :=
  (q_ld x 51 256 v6).bind fun w8 =>
  if w8 = 0 then
    (K32 x v1 v2 v3 v4 v5 (v6 + 1))
  else
    (f_Mo_goes x v1 v6).bind fun w9 =>
    if w9 = 0 then
      (K32 x v1 v2 v3 v4 v5 (v6 + 1))
    else
      if s0 < 0 then
        (K32 x v1 v2 v3 v4 v5 (v6 + 1))
      else
        if v5 ≤ s0 then
          (K32 x v1 v2 v3 v4 v5 (v6 + 1))
        else
          (K32 x v1 v2 v3 v6 s0 (v6 + 1))
def f_Mo_nextOf_L32 : Nat → q_W → Int32 → Int32 → Int32 → Int32 → Int32 → Int32 → Option Int32
  | 0 => fun _ _ _ _ _ _ _ => none
  | n + 1 => fun x v1 v2 v3 v4 v5 v6 =>
    (f_Mo_count x).bind fun w4 =>
    if w4 ≤ v6 then
      some v4
    else
      if v3 = 0 then
        (f_Mo_nextOf_J62 (f_Mo_nextOf_L32  n) x v1 v2 v3 v4 v5 v6 0)
      else
        (q_ld x 54 1280 ((256 * v2) + v6)).bind fun w5 =>
        (f_Mo_nextOf_J62 (f_Mo_nextOf_L32  n) x v1 v2 v3 v4 v5 v6 w5)
def f_Mo_nextOf_J21 (x : q_W) (v1 : Int32) (v2 : Int32) (s0 : Int32) : Option Int32 :=
  (f_Mo_nextOf_L32  q_fu x v1 v2 s0 (-1) 100000 0)
def f_Mo_nextOf_J20 (x : q_W) (v1 : Int32) (v2 : Int32) : Option Int32 :=
  (f_Mo_nextOf_J21  x v1 v2 0)
def f_Mo_nextOf (x : q_W) (a1 : Int32) (a2 : Int32) : Option Int32 :=
  if x.2 32 11 ≤ 0 then
    (f_Mo_nextOf_J20  x a1 a2)
  else
    (f_Mo_isDue x a2 a1).bind fun w1 =>
    if w1 = 0 then
      (f_Mo_nextOf_J20  x a1 a2)
    else
      (f_Mo_nextOf_J21  x a1 a2 1)
def f_Mo_goWalk_L62 : Nat → q_W → Int32 → Int32 → Int32 → Option q_W
  | 0 => fun _ _ _ _ => none
  | n + 1 => fun x v1 v2 v3 =>
    if v1 < 0 then
      some x
    else
      if 0 ≤ x.2 32 32 then
        some x
      else
        (f_Mo_dutyAt x v1 v3).bind fun w7 =>
        q_let (((5 * v1) + w7)) fun z8 =>
        (q_ld x 56 1280 z8).bind fun w9 =>
        if w9 < 0 then
          (q_sto x 56 1280 z8 v2).bind fun x10 =>
          (q_sto x10 55 1280 v2 v1).bind fun x11 =>
          (f_Mo_nextOf x11 v1 w7).bind fun w12 =>
          ((f_Mo_goWalk_L62  n) x11 w12 (v2 + 1) w7)
        else
          (q_ld x 56 1280 z8).bind fun w13 =>
          q_let (q_wr x 32 32 w13) fun x14 =>
          (q_ld x14 56 1280 z8).bind fun w15 =>
          q_let (q_wr x14 32 33 (v2 - w15)) fun x16 =>
          ((f_Mo_goWalk_L62  n) x16 v1 v2 w7)
def f_Mo_goWalk_L33 (E33 : q_W → Option q_W) : Nat → q_W → Int32 → Option q_W
  | 0 => fun _ _ => none
  | n + 1 => fun x v1 =>
    if 1280 ≤ v1 then
      (E33 x )
    else
      (q_sto x 56 1280 v1 (-1)).bind fun x20 =>
      ((f_Mo_goWalk_L33 E33 n) x20 (v1 + 1))
def f_Mo_goWalk_L12 : Nat → q_W → Int32 → Option q_W
  | 0 => fun _ _ => none
  | n + 1 => fun x v1 =>
    if x.2 32 11 ≤ v1 then
      (f_Mo_goWalk_L33 (fun x3 => (f_Mo_firstState x3).bind fun w4 =>
      (f_Mo_goWalk_L62  q_fu x3 w4 0 0)) q_fu x 0)
    else
      (f_Mo_countSteps x v1).bind fun x5 =>
      ((f_Mo_goWalk_L12  n) x5 (v1 + 1))
def f_Mo_goWalk (x : q_W) : Option q_W :=
  q_let (q_wr x 32 32 (-1)) fun x1 =>
  q_let (q_wr x1 32 33 (-1)) fun x2 =>
  (f_Mo_goWalk_L12  q_fu x2 0)
def f_Mo_valueOf_J271 (x : q_W) (v1 : Int32) (v3 : Int32) : Option Int32 :=
  (q_ld x 34 18 v1).bind fun w43 =>
  if ¬ ((v3 >>> ((w43 - 2) &&& 31)) &&& 1) = 1 then
    some (q_nb 0)
  else
    some (q_nb 1)
def f_Mo_valueOf_J58 (x : q_W) (v1 : Int32) (v2 : Int32) (v3 : Int32) (v4 : Int32) (s0 : Int32) : Option Int32 :=
  (q_ld x 34 18 v1).bind fun w11 =>
  if w11 = 0 then
    some (q_nb 0)
  else if w11 = 1 then
    some (q_nb 1)
  else if w11 = 2 then
    (f_Mo_valueOf_J271  x v1 v3)
  else if w11 = 3 then
    (f_Mo_valueOf_J271  x v1 v3)
  else if w11 = 4 then
    (f_Mo_valueOf_J271  x v1 v3)
  else if w11 = 5 then
    if ¬ s0 = 0 then
      some (q_nb 0)
    else
      some (q_nb 1)
  else if w11 = 6 then
    some (q_nb v2)
  else if w11 = 7 then
    if ¬ s0 = 0 then
      some (q_nb 1)
    else
      if v2 = 0 then
        some (q_nb 0)
      else
        some (q_nb 1)
  else if w11 = 8 then
    if s0 = 0 then
      some (q_nb 0)
    else
      if v2 = 0 then
        some (q_nb 0)
      else
        some (q_nb 1)
  else if w11 = 9 then
    if ¬ s0 = 0 then
      some (q_nb 1)
    else
      if v4 = 0 then
        some (q_nb 0)
      else
        if v2 = 0 then
          some (q_nb 0)
        else
          some (q_nb 1)
  else if w11 = 10 then
    if s0 = 0 then
      some (q_nb 0)
    else
      if ¬ v4 = 0 then
        some (q_nb 1)
      else
        if v2 = 0 then
          some (q_nb 0)
        else
          some (q_nb 1)
  else if w11 = 11 then
    if v4 = 0 then
      some (q_nb 0)
    else
      if s0 = 0 then
        some (q_nb 0)
      else
        some (q_nb 1)
  else if w11 = 12 then
    if ¬ v4 = 0 then
      some (q_nb 1)
    else
      if s0 = 0 then
        some (q_nb 0)
      else
        some (q_nb 1)
  else if w11 = 13 then
    if v4 = 0 then
      some (q_nb 1)
    else
      if s0 = 0 then
        some (q_nb 0)
      else
        some (q_nb 1)
  else 
    (f_Mo_valueOf_J271  x v1 v3)
def f_Mo_valueOf_J57 (x : q_W) (v1 : Int32) (v2 : Int32) (v3 : Int32) (v4 : Int32) : Option Int32 :=
  (f_Mo_valueOf_J58  x v1 v2 v3 v4 0)
def f_Mo_valueOf_J28 (x : q_W) (v1 : Int32) (v2 : Int32) (v3 : Int32) (s0 : Int32) : Option Int32 :=
  (q_ld x 36 18 v1).bind fun w6 =>
  if w6 < 0 then
    (f_Mo_valueOf_J57  x v1 v2 v3 s0)
  else
    (q_ld x 36 18 v1).bind fun w7 =>
    (q_ld x 50 18 w7).bind fun w8 =>
    if w8 = 0 then
      (f_Mo_valueOf_J57  x v1 v2 v3 s0)
    else
      (f_Mo_valueOf_J58  x v1 v2 v3 s0 1)
def f_Mo_valueOf_J27 (x : q_W) (v1 : Int32) (v2 : Int32) (v3 : Int32) : Option Int32 :=
  (f_Mo_valueOf_J28  x v1 v2 v3 0)
def f_Mo_valueOf (x : q_W) (a1 : Int32) (a2 : Int32) (a3 : Int32) : Option Int32 :=
  (q_ld x 35 18 a1).bind fun w1 =>
  if w1 < 0 then
    (f_Mo_valueOf_J27  x a1 a2 a3)
  else
    (q_ld x 35 18 a1).bind fun w2 =>
    (q_ld x 50 18 w2).bind fun w3 =>
    if w3 = 0 then
      (f_Mo_valueOf_J27  x a1 a2 a3)
    else
      (f_Mo_valueOf_J28  x a1 a2 a3 1)
def f_Mo_look_J243 (K172 : q_W → Int32 → Int32 → Int32 → Int32 → Option q_W) (E172 : q_W → Int32 → Int32 → Int32 → Option q_W) (x : q_W) (v1 : Int32) (v4 : Int32) (v5 : Int32) (v6 : Int32) (v7 : Int32) (s0 : Int32) : Option q_W :=
  (q_ld x 36 18 v6).bind fun w40 =>
  (q_ld x 50 18 w40).bind fun w41 =>
  if ¬ w41 = v7 then
    (K172 x v1 s0 v4 (v5 + 1))
  else
    q_let ((v4 ||| (1 <<< (v5 &&& 31)))) fun z42 =>
    (K172 x v1 s0 z42 (v5 + 1))
def f_Mo_look_J219 (K172 : q_W → Int32 → Int32 → Int32 → Int32 → Option q_W) (E172 : q_W → Int32 → Int32 → Int32 → Option q_W) (x : q_W) (v1 : Int32) (v3 : Int32) (v4 : Int32) (v5 : Int32) (v6 : Int32) (s0 : Int32) : Option q_W :=
  (q_ld x 50 18 v6).bind fun w34 =>
  if ¬ w34 = s0 then
    (f_Mo_look_J243 K172 E172 x v1 v4 v5 v6 s0 v3)
  else
    (f_Mo_look_J243 K172 E172 x v1 v4 v5 v6 s0 (v3 ||| (1 <<< (v5 &&& 31))))
def f_Mo_look_J214 (K172 : q_W → Int32 → Int32 → Int32 → Int32 → Option q_W) (E172 : q_W → Int32 → Int32 → Int32 → Option q_W) (x : q_W) (v1 : Int32) (v3 : Int32) (v4 : Int32) (v5 : Int32) (v6 : Int32) : Option q_W :=
  (f_Mo_look_J219 K172 E172 x v1 v3 v4 v5 v6 1)
def f_Mo_look_L172 (E172 : q_W → Int32 → Int32 → Int32 → Option q_W) : Nat → q_W → Int32 → Int32 → Int32 → Int32 → Option q_W
  | 0 => fun _ _ _ _ _ => none
  | n + 1 => fun x v1 v3 v4 v5 =>
    if x.2 32 11 ≤ v5 then
      (E172 x v1 v3 v4)
    else
      (q_ld x 39 5 v5).bind fun w15 =>
      (q_ld x 34 18 w15).bind fun w16 =>
      if w16 = 7 then
        (f_Mo_look_J214 (f_Mo_look_L172 E172 n) E172 x v1 v3 v4 v5 w15)
      else
        (q_ld x 34 18 w15).bind fun w17 =>
        if ¬ w17 = 9 then
          (f_Mo_look_J219 (f_Mo_look_L172 E172 n) E172 x v1 v3 v4 v5 w15 0)
        else
          (f_Mo_look_J214 (f_Mo_look_L172 E172 n) E172 x v1 v3 v4 v5 w15)
def f_Mo_look_J134 (K84 : q_W → Int32 → Int32 → Int32 → Option q_W) (E84 : q_W → Int32 → Int32 → Option q_W) (x : q_W) (v1 : Int32) (v2 : Int32) (v3 : Int32) (s0 : Int32) : Option q_W :=
  if s0 = 0 then
    (K84 x v1 v2 (v3 + 1))
  else
    q_let ((v2 ||| (1 <<< (v3 &&& 31)))) fun z36 =>
    (K84 x v1 z36 (v3 + 1))
def f_Mo_look_L84 (E84 : q_W → Int32 → Int32 → Option q_W) : Nat → q_W → Int32 → Int32 → Int32 → Option q_W
  | 0 => fun _ _ _ _ => none
  | n + 1 => fun x v1 v2 v3 =>
    if x.2 32 9 ≤ v3 then
      (E84 x v1 v2)
    else
      (q_ld x 38 5 v3).bind fun w21 =>
      (q_ld x 34 18 w21).bind fun w22 =>
      if ¬ w22 = 6 then
        (q_ld x 50 18 w21).bind fun w23 =>
        (f_Mo_look_J134 (f_Mo_look_L84 E84 n) E84 x v1 v2 v3 w23)
      else
        (q_ld x 36 18 w21).bind fun w24 =>
        (q_ld x 50 18 w24).bind fun w25 =>
        (f_Mo_look_J134 (f_Mo_look_L84 E84 n) E84 x v1 v2 v3 w25)
def f_Mo_look_J43 (K2 : q_W → Int32 → Int32 → Option q_W) (E2 : q_W → Int32 → Option q_W) (x : q_W) (v1 : Int32) (v2 : Int32) (s0 : Int32) : Option q_W :=
  (f_Mo_valueOf x v2 s0 v1).bind fun w38 =>
  (q_sto x 50 18 v2 (vp_nar .boolean w38)).bind fun x39 =>
  (K2 x39 v1 (v2 + 1))
def f_Mo_look_J42 (K2 : q_W → Int32 → Int32 → Option q_W) (E2 : q_W → Int32 → Option q_W) (x : q_W) (v1 : Int32) (v2 : Int32) : Option q_W :=
  (f_Mo_look_J43 K2 E2 x v1 v2 0)
def f_Mo_look_L2 (E2 : q_W → Int32 → Option q_W) : Nat → q_W → Int32 → Int32 → Option q_W
  | 0 => fun _ _ _ => none
  | n + 1 => fun x v1 v2 =>
    if x.2 32 4 ≤ v2 then
      (E2 x v1)
    else
      (q_ld x 34 18 v2).bind fun w28 =>
      (f_Mo_isTemporal x w28).bind fun w29 =>
      if w29 = 0 then
        (f_Mo_look_J42 (f_Mo_look_L2 E2 n) E2 x v1 v2)
      else
        (q_ld x 37 18 v2).bind fun w30 =>
        if ¬ ((v1 >>> ((3 + w30) &&& 31)) &&& 1) = 1 then
          (f_Mo_look_J42 (f_Mo_look_L2 E2 n) E2 x v1 v2)
        else
          (f_Mo_look_J43 (f_Mo_look_L2 E2 n) E2 x v1 v2 1)
def f_Mo_look (x : q_W) (a1 : Int32) : Option q_W :=
  (f_Mo_look_L2 (fun x1 u2 => (q_ld x1 50 18 ((x1.2 32 4) - 1)).bind fun w3 =>
  (q_sto x1 47 256 u2 (vp_nar .boolean w3)).bind fun x4 =>
  (f_Mo_look_L84 (fun x5 u6 u7 => (q_sto x5 46 256 u6 u7).bind fun x8 =>
  (f_Mo_look_L172 (fun x9 u10 u11 u12 => (q_sto x9 48 256 u10 u11).bind fun x13 =>
  (q_sto x13 49 256 u10 u12).bind fun x14 =>
  some x14) q_fu x8 u6 0 0 0)) q_fu x4 u2 0 0)) q_fu x a1 0)
def f_Mo_takeOut_L149 (K25 : q_W → Int32 → Option q_W) : Nat → q_W → Int32 → Int32 → Option q_W
  | 0 => fun _ _ _ => none
  | n + 1 => fun x v1 v2 =>
    (f_Mo_count x).bind fun w10 =>
    if w10 ≤ v2 then
      (K25 x v1)
    else
      (q_ld x 51 256 v2).bind fun w11 =>
      if w11 = 0 then
        ((f_Mo_takeOut_L149 K25 n) x v1 (v2 + 1))
      else
        (f_Mo_leadsToOne x v2).bind fun w12 =>
        if ¬ w12 = 0 then
          ((f_Mo_takeOut_L149 K25 n) x v1 (v2 + 1))
        else
          (q_sto x 51 256 v2 (vp_nar .boolean 0)).bind fun x13 =>
          ((f_Mo_takeOut_L149 K25 n) x13 1 (v2 + 1))
def f_Mo_takeOut_L117 (K25 : q_W → Int32 → Option q_W) (E117 : q_W → Int32 → Option q_W) : Nat → q_W → Int32 → Int32 → Option q_W
  | 0 => fun _ _ _ => none
  | n + 1 => fun x v1 v2 =>
    (f_Mo_count x).bind fun w17 =>
    if w17 ≤ v2 then
      (E117 x v1)
    else
      (q_ld x 51 256 v2).bind fun w18 =>
      (q_sto x 52 256 v2 (vp_nar .boolean w18)).bind fun x19 =>
      ((f_Mo_takeOut_L117 K25 E117 n) x19 v1 (v2 + 1))
def f_Mo_takeOut_L48 (K25 : q_W → Int32 → Option q_W) (K33 : q_W → Int32 → Int32 → Option q_W) : Nat → q_W → Int32 → Int32 → Int32 → Option q_W
  | 0 => fun _ _ _ _ => none
  | n + 1 => fun x v1 v2 v3 =>
    (f_Mo_count x).bind fun w21 =>
    if w21 ≤ v3 then
      (K33 x v1 (v2 + 1))
    else
      (q_ld x 51 256 v3).bind fun w22 =>
      if w22 = 0 then
        ((f_Mo_takeOut_L48 K25 K33 n) x v1 v2 (v3 + 1))
      else
        (q_ld x 48 256 v3).bind fun w23 =>
        if ¬ ((w23 >>> (v2 &&& 31)) &&& 1) = 1 then
          ((f_Mo_takeOut_L48 K25 K33 n) x v1 v2 (v3 + 1))
        else
          (q_ld x 54 1280 ((256 * v2) + v3)).bind fun w24 =>
          if 0 ≤ w24 then
            ((f_Mo_takeOut_L48 K25 K33 n) x v1 v2 (v3 + 1))
          else
            (q_sto x 51 256 v3 (vp_nar .boolean 0)).bind fun x25 =>
            ((f_Mo_takeOut_L48 K25 K33 n) x25 1 v2 (v3 + 1))
def f_Mo_takeOut_L33 (K25 : q_W → Int32 → Option q_W) : Nat → q_W → Int32 → Int32 → Option q_W
  | 0 => fun _ _ _ => none
  | n + 1 => fun x v1 v2 =>
    if x.2 32 11 ≤ v2 then
      (f_Mo_takeOut_L117 K25 (fun x5 u6 => (f_Mo_noteSome x5).bind fun x7 =>
      (f_Mo_takeOut_L149 K25 q_fu x7 u6 0)) q_fu x v1 0)
    else
      (f_Mo_countSteps x v2).bind fun x8 =>
      (f_Mo_takeOut_L48 K25 (f_Mo_takeOut_L33 K25 n) q_fu x8 v1 v2 0)
def f_Mo_takeOut_L25 : Nat → q_W → Int32 → Option q_W
  | 0 => fun _ _ => none
  | n + 1 => fun x v1 =>
    if v1 = 0 then
      some x
    else
      (f_Mo_takeOut_L33 (f_Mo_takeOut_L25  n) q_fu x 0 0)
def f_Mo_takeOut_L2 : Nat → q_W → Int32 → Option q_W
  | 0 => fun _ _ => none
  | n + 1 => fun x v1 =>
    (f_Mo_count x).bind fun w1 =>
    if w1 ≤ v1 then
      (f_Mo_takeOut_L25  q_fu x 1)
    else
      (q_sto x 51 256 v1 (vp_nar .boolean 1)).bind fun x2 =>
      ((f_Mo_takeOut_L2  n) x2 (v1 + 1))
def f_Mo_takeOut (x : q_W) : Option q_W :=
  (f_Mo_takeOut_L2  q_fu x 0)
def f_Mo_formula_L209 (E209 : q_W → Option (Int32 × q_W)) : Nat → q_W → Int32 → Option (Int32 × q_W)
  | 0 => fun _ _ => none
  | n + 1 => fun x v2 =>
    (f_Mo_count x).bind fun w35 =>
    if w35 ≤ v2 then
      (E209 x )
    else
      (f_Mo_look x v2).bind fun x36 =>
      ((f_Mo_formula_L209 E209 n) x36 (v2 + 1))
def f_Mo_formula_L152 : Nat → q_W → Int32 → Option (Int32 × q_W)
  | 0 => fun _ _ => none
  | n + 1 => fun x v2 =>
    if x.2 32 9 ≤ v2 then
      (f_Mo_formula_L209 (fun x25 => (f_Mo_takeOut x25).bind fun x26 =>
      (f_Mo_goWalk x26).bind fun x27 =>
      some (x27.2 32 4, x27)) q_fu x 0)
    else
      (q_ld x 38 5 v2).bind fun w28 =>
      (q_ld x 34 18 w28).bind fun w29 =>
      if w29 = 6 then
        ((f_Mo_formula_L152  n) x (v2 + 1))
      else
        (q_ld x 38 5 v2).bind fun w30 =>
        (q_sto x 39 5 (x.2 32 11) w30).bind fun x31 =>
        q_let (q_wr x31 32 11 ((x31.2 32 11) + 1)) fun x32 =>
        ((f_Mo_formula_L152  n) x32 (v2 + 1))
def f_Mo_formula_L64 : Nat → q_W → Int32 → Option (Int32 × q_W)
  | 0 => fun _ _ => none
  | n + 1 => fun x v2 =>
    if x.2 32 4 ≤ v2 then
      (f_Mo_formula_L152  q_fu x 0)
    else
      (q_ld x 40 18 v2).bind fun w11 =>
      (q_sto x 34 18 v2 w11).bind fun x12 =>
      (q_ld x12 41 18 v2).bind fun w13 =>
      (q_sto x12 35 18 v2 w13).bind fun x14 =>
      (q_ld x14 42 18 v2).bind fun w15 =>
      (q_sto x14 36 18 v2 w15).bind fun x16 =>
      (q_ld x16 43 18 v2).bind fun w17 =>
      (q_sto x16 37 18 v2 w17).bind fun x18 =>
      (q_ld x18 34 18 v2).bind fun w19 =>
      (f_Mo_isTemporal x18 w19).bind fun w20 =>
      if w20 = 0 then
        ((f_Mo_formula_L64  n) x18 (v2 + 1))
      else
        (q_ld x18 37 18 v2).bind fun w21 =>
        (q_sto x18 38 5 w21 v2).bind fun x22 =>
        ((f_Mo_formula_L64  n) x22 (v2 + 1))
def f_Mo_formula_J24 (x : q_W) (s0 : Int32) : Option (Int32 × q_W) :=
  q_let (q_wr x 32 0 s0) fun x5 =>
  if x5.2 32 0 ≤ 0 then
    q_let (q_wr x5 32 3 1) fun x6 =>
    q_let (q_wr x6 32 4 (x6.2 32 13)) fun x7 =>
    q_let (q_wr x7 32 9 (x7.2 32 18)) fun x8 =>
    q_let (q_wr x8 32 11 0) fun x9 =>
    (f_Mo_formula_L64  q_fu x9 0)
  else
    some (0, x5)
def f_Mo_formula (x : q_W) : Option (Int32 × q_W) :=
  q_let (x.2 32 2) fun z1 =>
  q_let (q_wr x 32 2 0) fun x2 =>
  (f_Mo_reads x2 z1).bind fun q3 =>
  if q3.1 = 0 then
    (f_Mo_formula_J24  q3.2 1)
  else
    (f_Mo_formula_J24  q3.2 0)
def f_Mo_refused_J21 (x : q_W) (s0 : Int32) : Option (Int32 × q_W) :=
  q_let (q_wr x 32 0 s0) fun x3 =>
  if x3.2 32 0 ≤ 0 then
    some ((q_nb 0), x3)
  else
    some ((q_nb 1), x3)
def f_Mo_refused (x : q_W) (a1 : Int32) : Option (Int32 × q_W) :=
  if ¬ x.2 32 3 = 0 then
    if a1 = 0 then
      (f_Mo_refused_J21  x 2)
    else
      (f_Mo_refused_J21  x 0)
  else
    (f_Mo_refused_J21  x 1)
def f_Mo_isState (x : q_W) (a1 : Int32) : Option Int32 :=
  if a1 < 0 then
    some (q_nb 0)
  else
    if x.2 32 3 = 0 then
      some (q_nb 0)
    else
      (f_Mo_count x).bind fun w1 =>
      if w1 ≤ a1 then
        some (q_nb 0)
      else
        some (q_nb 1)
def f_Mo_states (x : q_W) : Option (Int32 × q_W) :=
  (f_Mo_refused x 1).bind fun q1 =>
  if q1.1 = 0 then
    (f_Mo_count q1.2).bind fun w2 =>
    some (w2, q1.2)
  else
    some (0, q1.2)
def f_Mo_isAt (x : q_W) (a1 : Int32) : Option (Int32 × q_W) :=
  (f_Mo_isState x a1).bind fun w1 =>
  (f_Mo_refused x w1).bind fun q2 =>
  if ¬ q2.1 = 0 then
    some ((q_nb 0), q2.2)
  else
    (q_ld q2.2 47 256 a1).bind fun w3 =>
    if w3 = 0 then
      some ((q_nb 0), q2.2)
    else
      some ((q_nb 1), q2.2)
def f_Mo_leads_J22 (x : q_W) (v1 : Int32) (v2 : Int32) (s0 : Int32) : Option (Int32 × q_W) :=
  (f_Mo_refused x s0).bind fun q5 =>
  if ¬ q5.1 = 0 then
    some ((q_nb 0), q5.2)
  else
    (f_Mo_goes q5.2 v1 v2).bind fun w6 =>
    if w6 = 0 then
      some ((q_nb 0), q5.2)
    else
      some ((q_nb 1), q5.2)
def f_Mo_leads_J21 (x : q_W) (v1 : Int32) (v2 : Int32) : Option (Int32 × q_W) :=
  (f_Mo_leads_J22  x v1 v2 0)
def f_Mo_leads (x : q_W) (a1 : Int32) (a2 : Int32) : Option (Int32 × q_W) :=
  (f_Mo_isState x a1).bind fun w1 =>
  if w1 = 0 then
    (f_Mo_leads_J21  x a1 a2)
  else
    (f_Mo_isState x a2).bind fun w2 =>
    if w2 = 0 then
      (f_Mo_leads_J21  x a1 a2)
    else
      (f_Mo_leads_J22  x a1 a2 1)
def f_Mo_lasts (x : q_W) (a1 : Int32) : Option (Int32 × q_W) :=
  (f_Mo_isState x a1).bind fun w1 =>
  (f_Mo_refused x w1).bind fun q2 =>
  if ¬ q2.1 = 0 then
    some ((q_nb 0), q2.2)
  else
    (q_ld q2.2 51 256 a1).bind fun w3 =>
    if w3 = 0 then
      some ((q_nb 0), q2.2)
    else
      some ((q_nb 1), q2.2)
def f_Mo_lasting_L14 : Nat → q_W → Int32 → Int32 → Option (Int32 × q_W)
  | 0 => fun _ _ _ => none
  | n + 1 => fun x v1 v2 =>
    (f_Mo_count x).bind fun w3 =>
    if w3 ≤ v2 then
      some (v1, x)
    else
      (q_ld x 51 256 v2).bind fun w4 =>
      if w4 = 0 then
        ((f_Mo_lasting_L14  n) x v1 (v2 + 1))
      else
        q_let ((v1 + 1)) fun z5 =>
        ((f_Mo_lasting_L14  n) x z5 (v2 + 1))
def f_Mo_lasting (x : q_W) : Option (Int32 × q_W) :=
  (f_Mo_refused x 1).bind fun q1 =>
  if q1.1 = 0 then
    (f_Mo_lasting_L14  q_fu q1.2 0 0)
  else
    some (0, q1.2)
def f_Mo_promises (x : q_W) : Option (Int32 × q_W) :=
  (f_Mo_refused x 1).bind fun q1 =>
  if q1.1 = 0 then
    some (q1.2.2 32 11, q1.2)
  else
    some (0, q1.2)
def f_Mo_can (x : q_W) : Option (Int32 × q_W) :=
  (f_Mo_refused x 1).bind fun q1 =>
  if ¬ q1.1 = 0 then
    some ((q_nb 0), q1.2)
  else
    if q1.2.2 32 32 < 0 then
      some ((q_nb 0), q1.2)
    else
      some ((q_nb 1), q1.2)
def f_Mo_stem (x : q_W) : Option (Int32 × q_W) :=
  (f_Mo_refused x 1).bind fun q1 =>
  if q1.1 = 0 then
    some (q1.2.2 32 32, q1.2)
  else
    some (0, q1.2)
def f_Mo_loop (x : q_W) : Option (Int32 × q_W) :=
  (f_Mo_refused x 1).bind fun q1 =>
  if q1.1 = 0 then
    some (q1.2.2 32 33, q1.2)
  else
    some (0, q1.2)
def f_Mo_step_J41 (x : q_W) (v1 : Int32) (s0 : Int32) : Option (Int32 × q_W) :=
  q_let (q_wr x 32 0 s0) fun x5 =>
  if x5.2 32 0 ≤ 0 then
    (q_ld x5 55 1280 v1).bind fun w6 =>
    some (w6, x5)
  else
    some (0, x5)
def f_Mo_step_J36 (x : q_W) (v1 : Int32) : Option (Int32 × q_W) :=
  (f_Mo_step_J41  x v1 2)
def f_Mo_step_J15 (x : q_W) (v1 : Int32) : Option (Int32 × q_W) :=
  (f_Mo_step_J41  x v1 1)
def f_Mo_step (x : q_W) (a1 : Int32) : Option (Int32 × q_W) :=
  if x.2 32 3 = 0 then
    (f_Mo_step_J15  x a1)
  else
    if 0 ≤ x.2 32 32 then
      if a1 < 0 then
        (f_Mo_step_J36  x a1)
      else
        if a1 < ((x.2 32 32) + (x.2 32 33)) then
          (f_Mo_step_J41  x a1 0)
        else
          (f_Mo_step_J36  x a1)
    else
      (f_Mo_step_J15  x a1)
def f_Mo_shape_L71 : Nat → q_W → Int32 → Int32 → Int32 → Option q_W
  | 0 => fun _ _ _ _ => none
  | n + 1 => fun x v1 v2 v3 =>
    if 16 ≤ v3 then
      q_let (q_wr x 32 36 v1) fun x11 =>
      q_let (q_wr x11 32 37 v2) fun x12 =>
      some x12
    else
      (q_sto x 57 16 v3 0).bind fun x13 =>
      ((f_Mo_shape_L71  n) x13 v1 v2 (v3 + 1))
def f_Mo_shape_L48 : Nat → q_W → Int32 → Int32 → Int32 → Option q_W
  | 0 => fun _ _ _ _ => none
  | n + 1 => fun x v1 v2 v3 =>
    if 16 ≤ v3 then
      q_let ((v1 + v2)) fun z8 =>
      (f_Mo_shape_L71  q_fu x v1 v2 z8)
    else
      (q_sto x 57 16 v3 0).bind fun x9 =>
      ((f_Mo_shape_L48  n) x9 v1 v2 (v3 + 1))
def f_Mo_shape_J27 (x : q_W) (v1 : Int32) (v2 : Int32) (s0 : Int32) : Option q_W :=
  q_let (q_wr x 32 0 s0) fun x5 =>
  if x5.2 32 0 ≤ 0 then
    q_let (((x5.2 32 36) + (x5.2 32 37))) fun z6 =>
    (f_Mo_shape_L48  q_fu x5 v1 v2 z6)
  else
    some x5
def f_Mo_shape_J22 (x : q_W) (v1 : Int32) (v2 : Int32) : Option q_W :=
  (f_Mo_shape_J27  x v1 v2 1)
def f_Mo_shape (x : q_W) (a1 : Int32) (a2 : Int32) : Option q_W :=
  if a1 < 0 then
    (f_Mo_shape_J22  x a1 a2)
  else
    if 8 < a1 then
      (f_Mo_shape_J22  x a1 a2)
    else
      if a2 < 1 then
        (f_Mo_shape_J22  x a1 a2)
      else
        if a2 ≤ 8 then
          (f_Mo_shape_J27  x a1 a2 0)
        else
          (f_Mo_shape_J22  x a1 a2)
def f_Mo_set_J23 (x : q_W) (v1 : Int32) (v2 : Int32) (s0 : Int32) : Option (Int32 × q_W) :=
  q_let (q_wr x 32 0 s0) fun x3 =>
  if x3.2 32 0 ≤ 0 then
    (q_ld x3 57 16 v1).bind fun w4 =>
    (q_sto x3 57 16 v1 (v2 &&& 7)).bind fun x5 =>
    some (w4, x5)
  else
    some (0, x3)
def f_Mo_set_J18 (x : q_W) (v1 : Int32) (v2 : Int32) : Option (Int32 × q_W) :=
  (f_Mo_set_J23  x v1 v2 1)
def f_Mo_set (x : q_W) (a1 : Int32) (a2 : Int32) : Option (Int32 × q_W) :=
  if a1 < 0 then
    (f_Mo_set_J18  x a1 a2)
  else
    if a1 < ((x.2 32 36) + (x.2 32 37)) then
      (f_Mo_set_J23  x a1 a2 0)
    else
      (f_Mo_set_J18  x a1 a2)
def f_Mo_adopt_L53 : Nat → q_W → Int32 → Option (Int32 × q_W)
  | 0 => fun _ _ => none
  | n + 1 => fun x v1 =>
    if 16 ≤ v1 then
      some ((q_nb 1), x)
    else
      if ((x.2 32 32) + (x.2 32 33)) ≤ v1 then
        (q_sto x 57 16 v1 0).bind fun x8 =>
        ((f_Mo_adopt_L53  n) x8 (v1 + 1))
      else
        (q_ld x 55 1280 v1).bind fun w9 =>
        (q_sto x 57 16 v1 (w9 &&& 7)).bind fun x10 =>
        ((f_Mo_adopt_L53  n) x10 (v1 + 1))
def f_Mo_adopt (x : q_W) : Option (Int32 × q_W) :=
  (f_Mo_refused x 1).bind fun q1 =>
  if ¬ q1.1 = 0 then
    some ((q_nb 0), q1.2)
  else
    if q1.2.2 32 32 < 0 then
      some ((q_nb 0), q1.2)
    else
      if 8 < q1.2.2 32 32 then
        some ((q_nb 0), q1.2)
      else
        if q1.2.2 32 33 ≤ 8 then
          q_let (q_wr q1.2 32 36 (q1.2.2 32 32)) fun x2 =>
          q_let (q_wr x2 32 37 (x2.2 32 33)) fun x3 =>
          (f_Mo_adopt_L53  q_fu x3 0)
        else
          some ((q_nb 0), q1.2)
def f_Mo_placeOf (x : q_W) (a1 : Int32) : Option Int32 :=
  if x.2 32 36 ≤ a1 then
    if x.2 32 37 = 0 then none else
    some ((x.2 32 36) + ((a1 - (x.2 32 36)) - (a1 - (x.2 32 36)) / (x.2 32 37) * (x.2 32 37)))
  else
    some a1
def f_Mo_letter_J10 (x : q_W) (v1 : Int32) (s0 : Int32) : Option (Int32 × q_W) :=
  q_let (q_wr x 32 0 s0) fun x2 =>
  if x2.2 32 0 ≤ 0 then
    (f_Mo_placeOf x2 v1).bind fun w3 =>
    (q_ld x2 57 16 w3).bind fun w4 =>
    some (w4, x2)
  else
    some (0, x2)
def f_Mo_letter (x : q_W) (a1 : Int32) : Option (Int32 × q_W) :=
  if 0 ≤ a1 then
    (f_Mo_letter_J10  x a1 0)
  else
    (f_Mo_letter_J10  x a1 1)
def f_Mo_spread_J207 (K63 : q_W → Int32 → Int32 → Int32 → Option q_W) (K72 : q_W → Int32 → Int32 → Int32 → Int32 → Option q_W) (x : q_W) (v1 : Int32) (v2 : Int32) (v3 : Int32) (v4 : Int32) (s0 : Int32) : Option q_W :=
  (q_ld x 57 16 v4).bind fun w27 =>
  (f_Mo_valueOf x v1 s0 w27).bind fun w28 =>
  (q_sto x 58 288 ((16 * v1) + v4) (vp_nar .boolean w28)).bind fun x29 =>
  (K72 x29 v1 v2 v3 (v4 + 1))
def f_Mo_spread_J164 (K63 : q_W → Int32 → Int32 → Int32 → Option q_W) (K72 : q_W → Int32 → Int32 → Int32 → Int32 → Option q_W) (x : q_W) (v1 : Int32) (v2 : Int32) (v3 : Int32) (v4 : Int32) (v5 : Int32) : Option q_W :=
  (q_ld x 34 18 v1).bind fun w22 =>
  if ¬ w22 = 6 then
    (q_ld x 58 288 ((16 * v1) + v5)).bind fun w23 =>
    (f_Mo_spread_J207 K63 K72 x v1 v2 v3 v4 w23)
  else
    (q_ld x 36 18 v1).bind fun w24 =>
    (q_ld x 58 288 ((16 * w24) + v5)).bind fun w25 =>
    (f_Mo_spread_J207 K63 K72 x v1 v2 v3 v4 w25)
def f_Mo_spread_J97 (K63 : q_W → Int32 → Int32 → Int32 → Option q_W) (K72 : q_W → Int32 → Int32 → Int32 → Int32 → Option q_W) (x : q_W) (v1 : Int32) (v2 : Int32) (v3 : Int32) (v4 : Int32) (s0 : Int32) : Option q_W :=
  (q_ld x 35 18 v1).bind fun w12 =>
  if w12 < 0 then
    (f_Mo_spread_J164 K63 K72 x v1 v2 v3 v4 s0)
  else
    (q_ld x 35 18 v1).bind fun w13 =>
    (q_ld x 35 18 v1).bind fun w14 =>
    (q_ld x 58 288 ((16 * w14) + v4)).bind fun w15 =>
    (q_sto x 50 18 w13 (vp_nar .boolean w15)).bind fun x16 =>
    (q_ld x16 36 18 v1).bind fun w17 =>
    (q_ld x16 36 18 v1).bind fun w18 =>
    (q_ld x16 58 288 ((16 * w18) + v4)).bind fun w19 =>
    (q_sto x16 50 18 w17 (vp_nar .boolean w19)).bind fun x20 =>
    (f_Mo_spread_J164 K63 K72 x20 v1 v2 v3 v4 s0)
def f_Mo_spread_L72 (K63 : q_W → Int32 → Int32 → Int32 → Option q_W) : Nat → q_W → Int32 → Int32 → Int32 → Int32 → Option q_W
  | 0 => fun _ _ _ _ _ => none
  | n + 1 => fun x v1 v2 v3 v4 =>
    if v2 ≤ v4 then
      (K63 x v1 v2 (v3 + 1))
    else
      if v2 ≤ (v4 + 1) then
        (f_Mo_spread_J97 K63 (f_Mo_spread_L72 K63 n) x v1 v2 v3 v4 (x.2 32 36))
      else
        (f_Mo_spread_J97 K63 (f_Mo_spread_L72 K63 n) x v1 v2 v3 v4 (v4 + 1))
def f_Mo_spread_L63 : Nat → q_W → Int32 → Int32 → Int32 → Option q_W
  | 0 => fun _ _ _ _ => none
  | n + 1 => fun x v1 v2 v3 =>
    if 18 ≤ v3 then
      some x
    else
      (f_Mo_spread_L72 (f_Mo_spread_L63  n) q_fu x v1 v2 v3 0)
def f_Mo_spread_J49 (K12 : q_W → Int32 → Int32 → Int32 → Option q_W) (x : q_W) (v1 : Int32) (v2 : Int32) (v3 : Int32) (s0 : Int32) : Option q_W :=
  (q_sto x 58 288 s0 (vp_nar .boolean 1)).bind fun x9 =>
  (K12 x9 v1 v2 (v3 + 1))
def f_Mo_spread_L12 : Nat → q_W → Int32 → Int32 → Int32 → Option q_W
  | 0 => fun _ _ _ _ => none
  | n + 1 => fun x v1 v2 v3 =>
    if v2 ≤ v3 then
      (f_Mo_spread_L63  q_fu x v1 v2 0)
    else
      (q_ld x 34 18 v1).bind fun w2 =>
      if w2 = 8 then
        (f_Mo_spread_J49 (f_Mo_spread_L12  n) x v1 v2 v3 ((16 * v1) + v3))
      else
        (q_ld x 34 18 v1).bind fun w3 =>
        if ¬ w3 = 10 then
          (q_sto x 58 288 ((16 * v1) + v3) (vp_nar .boolean 0)).bind fun x4 =>
          ((f_Mo_spread_L12  n) x4 v1 v2 (v3 + 1))
        else
          (f_Mo_spread_J49 (f_Mo_spread_L12  n) x v1 v2 v3 ((16 * v1) + v3))
def f_Mo_spread (x : q_W) (a1 : Int32) : Option q_W :=
  q_let (((x.2 32 36) + (x.2 32 37))) fun z1 =>
  (f_Mo_spread_L12  q_fu x a1 z1 0)
def f_Mo_holds_L20 (E20 : q_W → Int32 → Option (Int32 × q_W)) : Nat → q_W → Int32 → Int32 → Option (Int32 × q_W)
  | 0 => fun _ _ _ => none
  | n + 1 => fun x v1 v2 =>
    if x.2 32 4 ≤ v2 then
      (E20 x v1)
    else
      (f_Mo_spread x v2).bind fun x8 =>
      ((f_Mo_holds_L20 E20 n) x8 v1 (v2 + 1))
def f_Mo_holds_J10 (x : q_W) (v1 : Int32) (s0 : Int32) : Option (Int32 × q_W) :=
  (f_Mo_refused x s0).bind fun q2 =>
  if q2.1 = 0 then
    (f_Mo_holds_L20 (fun x3 u4 => (f_Mo_placeOf x3 u4).bind fun w5 =>
    (q_ld x3 58 288 ((16 * ((x3.2 32 4) - 1)) + w5)).bind fun w6 =>
    some ((q_nb w6), x3)) q_fu q2.2 v1 0)
  else
    some ((q_nb 0), q2.2)
def f_Mo_holds (x : q_W) (a1 : Int32) : Option (Int32 × q_W) :=
  if a1 < 0 then
    (f_Mo_holds_J10  x a1 0)
  else
    (f_Mo_holds_J10  x a1 1)
def f_Lw_type (c d : Nat) (x : q_W) (a1 : Int32) : Option (Int32 × q_W) :=
  q_tcT (f_D_type c d x a1) (fun w1 x2 =>
    if w1 = 0 then
      q_let (0, x2.2) fun x3 =>
      some (0, x3)
    else
      q_let (1, x2.2) fun x4 =>
      some (0, x4)) (fun k6 x7 =>
    if k6 = 0 then
      some (1, x7)
    else none)
def f_Lw_formula (c d : Nat) (x : q_W) : Option (Int32 × (Nat × Nat × q_W)) :=
  q_tcT (f_D_formula c d x) (fun w1 x2 =>
    q_let (w1.toInt64, x2.2.2.2) fun x3 =>
    some (0, (x2.1, x2.2.1, x3))) (fun k4 x5 =>
    if k4 = 0 then
      some (1, (x5.1, x5.2.1, x5.2.2))
    else none)
def f_Lw_states (c d : Nat) (x : q_W) : Option (Int32 × q_W) :=
  q_tcP (f_D_states c d x) x (fun w1 _ =>
    q_let (w1.toInt64, x.2) fun x3 =>
    some (0, x3)) (fun k4 _ =>
    if k4 = 1 then
      some (1, x)
    else none)
def f_Lw_isAt (c d : Nat) (x : q_W) (a1 : Int32) : Option (Int32 × q_W) :=
  q_tcP (f_D_isAt c d x a1) x (fun w1 _ =>
    if w1 = 0 then
      q_let (0, x.2) fun x3 =>
      some (0, x3)
    else
      q_let (1, x.2) fun x4 =>
      some (0, x4)) (fun k6 _ =>
    if k6 = 1 then
      some (1, x)
    else if k6 = 2 then
      some (2, x)
    else none)
def f_Lw_leads (c d : Nat) (x : q_W) (a1 : Int32) (a2 : Int32) : Option (Int32 × q_W) :=
  q_tcP (f_D_leads c d x a1 a2) x (fun w1 _ =>
    if w1 = 0 then
      q_let (0, x.2) fun x3 =>
      some (0, x3)
    else
      q_let (1, x.2) fun x4 =>
      some (0, x4)) (fun k6 _ =>
    if k6 = 1 then
      some (1, x)
    else if k6 = 2 then
      some (2, x)
    else none)
def f_Lw_lasts (c d : Nat) (x : q_W) (a1 : Int32) : Option (Int32 × q_W) :=
  q_tcT (f_D_lasts c d x a1) (fun w1 x2 =>
    if w1 = 0 then
      q_let (0, x2.2) fun x3 =>
      some (0, x3)
    else
      q_let (1, x2.2) fun x4 =>
      some (0, x4)) (fun k6 x7 =>
    if k6 = 1 then
      some (1, x7)
    else if k6 = 2 then
      some (2, x7)
    else none)
def f_Lw_lasting (c d : Nat) (x : q_W) : Option (Int32 × q_W) :=
  q_tcT (f_D_lasting c d x) (fun w1 x2 =>
    q_let (w1.toInt64, x2.2) fun x3 =>
    some (0, x3)) (fun k4 x5 =>
    if k4 = 1 then
      some (1, x5)
    else none)
def f_Lw_promises (c d : Nat) (x : q_W) : Option (Int32 × q_W) :=
  q_tcP (f_D_promises c d x) x (fun w1 _ =>
    q_let (w1.toInt64, x.2) fun x3 =>
    some (0, x3)) (fun k4 _ =>
    if k4 = 1 then
      some (1, x)
    else none)
def f_Lw_can (c d : Nat) (x : q_W) : Option (Int32 × q_W) :=
  q_tcT (f_D_can c d x) (fun w1 x2 =>
    if w1 = 0 then
      q_let (0, x2.2) fun x3 =>
      some (0, x3)
    else
      q_let (1, x2.2) fun x4 =>
      some (0, x4)) (fun k6 x7 =>
    if k6 = 1 then
      some (1, x7)
    else none)
def f_Lw_stem (c d : Nat) (x : q_W) : Option (Int32 × q_W) :=
  q_tcT (f_D_stem c d x) (fun w1 x2 =>
    q_let (w1.toInt64, x2.2) fun x3 =>
    some (0, x3)) (fun k4 x5 =>
    if k4 = 1 then
      some (1, x5)
    else none)
def f_Lw_loop (c d : Nat) (x : q_W) : Option (Int32 × q_W) :=
  q_tcT (f_D_loop c d x) (fun w1 x2 =>
    q_let (w1.toInt64, x2.2) fun x3 =>
    some (0, x3)) (fun k4 x5 =>
    if k4 = 1 then
      some (1, x5)
    else none)
def f_Lw_step (c d : Nat) (x : q_W) (a1 : Int32) : Option (Int32 × q_W) :=
  q_tcT (f_D_step c d x a1) (fun w1 x2 =>
    q_let (w1.toInt64, x2.2) fun x3 =>
    some (0, x3)) (fun k4 x5 =>
    if k4 = 1 then
      some (1, x5)
    else if k4 = 2 then
      some (2, x5)
    else none)
def f_Lw_shape (c d : Nat) (x : q_W) (a1 : Int32) (a2 : Int32) : Option (Int32 × q_W) :=
  q_tcT (f_D_shape c d x a1 a2) (fun w1 x2 =>
    some (0, x2)) (fun k3 x4 =>
    if k3 = 0 then
      some (1, x4)
    else none)
def f_Lw_set (c d : Nat) (x : q_W) (a1 : Int32) (a2 : Int32) : Option (Int32 × q_W) :=
  q_tcT (f_D_set c d x a1 a2) (fun w1 x2 =>
    q_let (w1.toInt64, x2.2) fun x3 =>
    some (0, x3)) (fun k4 x5 =>
    if k4 = 2 then
      some (1, x5)
    else none)
def f_Lw_adopt (c d : Nat) (x : q_W) : Option (Int32 × q_W) :=
  q_tcT (f_D_adopt c d x) (fun w1 x2 =>
    if w1 = 0 then
      q_let (0, x2.2) fun x3 =>
      some (0, x3)
    else
      q_let (1, x2.2) fun x4 =>
      some (0, x4)) (fun k6 x7 =>
    if k6 = 1 then
      some (1, x7)
    else none)
def f_Lw_letter (c d : Nat) (x : q_W) (a1 : Int32) : Option (Int32 × q_W) :=
  q_tcP (f_D_letter c d x a1) x (fun w1 _ =>
    q_let (w1.toInt64, x.2) fun x3 =>
    some (0, x3)) (fun k4 _ =>
    if k4 = 2 then
      some (1, x)
    else none)
def f_Lw_holds (c d : Nat) (x : q_W) (a1 : Int32) : Option (Int32 × q_W) :=
  q_tcT (f_D_holds c d x a1) (fun w1 x2 =>
    if w1 = 0 then
      q_let (0, x2.2) fun x3 =>
      some (0, x3)
    else
      q_let (1, x2.2) fun x4 =>
      some (0, x4)) (fun k6 x7 =>
    if k6 = 1 then
      some (1, x7)
    else if k6 = 2 then
      some (2, x7)
    else none)
