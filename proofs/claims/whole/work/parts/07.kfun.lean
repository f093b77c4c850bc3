def F_K_isWithin (σ : kS) (x0 : Int32) (x1 : Int32) (x2 : Int32) : Option (Int32) :=
  if x0 < x1 then (
    some 0
  ) else (
    if x2 < x0 then (
      some 0
    ) else (
      some 1
    )
  )
def F_K_process (σ : kS) (x1 : Int32) (x2 : Int32) (x3 : Int32) : Option (Int32 × kS) :=
  if 12 ≤ (gI σ 0 0 0) then (
    some ((-1), σ)
  ) else (
    bd (F_K_isWithin σ x1 (-4) 4) (fun r1 =>
      if r1 = 0 then (
        some ((-1), σ)
      ) else (
        bd (F_K_isWithin σ x2 1 9) (fun r2 =>
          if r2 = 0 then (
            some ((-1), σ)
          ) else (
            bd (F_K_isWithin σ x3 0 10) (fun r3 =>
              if r3 = 0 then (
                some ((-1), σ)
              ) else (
                gd (inb (gI σ 0 0 0) 12) (
                  lx (gI σ 0 0 0).toNatClampNeg (fun j5 =>
                    lx (sI σ 4 j5 0 x1) (fun σ6 =>
                      lx (sI σ6 5 j5 0 x2) (fun σ7 =>
                        lx (sI σ7 6 j5 0 x3) (fun σ8 =>
                          lx (sI σ8 0 0 0 ((gI σ8 0 0 0) + 1)) (fun σ9 =>
                            some (gI σ9 2 j5 0, σ9)
                          )
                        )
                      )
                    )
                  )
                )
              )
            )
          )
        )
      )
    )
  )
def F_K_isProcess (σ : kS) (x1 : Int32) : Option (Int32) :=
  if x1 < 0 then (
    some 0
  ) else (
    if (gI σ 0 0 0) ≤ x1 then (
      some 0
    ) else (
      some 1
    )
  )
def F_K_isResource (σ : kS) (x0 : Int32) : Option (Int32) :=
  bd (F_K_isWithin σ x0 0 3) (fun r1 =>
    gd (bz r1) (
      some r1
    )
  )
def F_K_isTank (σ : kS) (x0 : Int32) : Option (Int32) :=
  bd (F_K_isWithin σ x0 0 3) (fun r1 =>
    gd (bz r1) (
      some r1
    )
  )
def F_K_isInstruction (σ : kS) (x0 : Int32) (x1 : Int32) (x2 : Int32) : Option (Int32) :=
  if x0 = 0 then (
    bd (F_K_isWithin σ x1 0 1000000) (fun r1 =>
      gd (bz r1) (
        some r1
      )
    )
  ) else (
    if x0 = 1 then (
      some 1
    ) else (
      if x0 = 2 then (
        bd (F_K_isResource σ x1) (fun r3 =>
          if r3 = 0 then (
            some 0
          ) else (
            bd (F_K_isWithin σ x2 1 9) (fun r4 =>
              if r4 = 0 then (
                some 0
              ) else (
                some 1
              )
            )
          )
        )
      ) else (
        if x0 = 3 then (
          bd (F_K_isResource σ x1) (fun r5 =>
            if r5 = 0 then (
              some 0
            ) else (
              bd (F_K_isWithin σ x2 1 9) (fun r6 =>
                if r6 = 0 then (
                  some 0
                ) else (
                  some 1
                )
              )
            )
          )
        ) else (
          if x0 = 4 then (
            bd (F_K_isTank σ x1) (fun r7 =>
              if r7 = 0 then (
                some 0
              ) else (
                bd (F_K_isWithin σ x2 1 1000) (fun r8 =>
                  if r8 = 0 then (
                    some 0
                  ) else (
                    some 1
                  )
                )
              )
            )
          ) else (
            if x0 = 5 then (
              bd (F_K_isTank σ x1) (fun r9 =>
                if r9 = 0 then (
                  some 0
                ) else (
                  bd (F_K_isWithin σ x2 1 1000) (fun r10 =>
                    if r10 = 0 then (
                      some 0
                    ) else (
                      some 1
                    )
                  )
                )
              )
            ) else (
              if x0 = 6 then (
                bd (F_K_isWithin σ x1 0 11) (fun r11 =>
                  gd (bz r11) (
                    some r11
                  )
                )
              ) else (
                if x0 = 7 then (
                  bd (F_K_isWithin σ x1 0 11) (fun r13 =>
                    gd (bz r13) (
                      some r13
                    )
                  )
                ) else (
                  if x0 = 8 then (
                    bd (F_K_isWithin σ x1 0 11) (fun r15 =>
                      gd (bz r15) (
                        some r15
                      )
                    )
                  ) else (
                    if x0 = 9 then (
                      bd (F_K_isWithin σ x1 0 11) (fun r17 =>
                        gd (bz r17) (
                          some r17
                        )
                      )
                    ) else (
                      some 0
                    )
                  )
                )
              )
            )
          )
        )
      )
    )
  )
def F_P_append (σ : kS) (g0 : Nat) (x1 : Int32) (x2 : Int32) (x3 : Int32) : Option (kS) :=
  gd (inb (gI σ 3 g0 0) 10) (
    lx (sI σ 11 g0 (gI σ 3 g0 0).toNatClampNeg x1) (fun σ2 =>
      gd (inb (gI σ2 3 g0 0) 10) (
        lx (sI σ2 12 g0 (gI σ2 3 g0 0).toNatClampNeg x2) (fun σ4 =>
          gd (inb (gI σ4 3 g0 0) 10) (
            lx (sI σ4 13 g0 (gI σ4 3 g0 0).toNatClampNeg x3) (fun σ6 =>
              lx (sI σ6 3 g0 0 ((gI σ6 3 g0 0) + 1)) (fun σ7 =>
                some σ7
              )
            )
          )
        )
      )
    )
  )
def F_K_instruct (σ : kS) (x1 : Int32) (x2 : Int32) (x3 : Int32) (x4 : Int32) : Option (Int32 × kS) :=
  bd (F_K_isProcess σ x1) (fun r1 =>
    if r1 = 0 then (
      some (0, σ)
    ) else (
      bd (F_K_isInstruction σ x2 x3 x4) (fun r2 =>
        if r2 = 0 then (
          some (0, σ)
        ) else (
          gd (inb x1 12) (
            lx x1.toNatClampNeg (fun j4 =>
              if (gI σ 7 j4 0) = 0 then (
                if (gI σ 3 j4 0) < 10 then (
                  bd (F_P_append σ j4 x2 x3 x4) (fun r5 =>
                    some (1, r5)
                  )
                ) else (
                  some (0, σ)
                )
              ) else (
                some (0, σ)
              )
            )
          )
        )
      )
    )
  )
def F_P_secondOperand (σ : kS) (g0 : Nat) : Option (Int32) :=
  gd (inb (gI σ 9 g0 0) 10) (
    some (gI σ 13 g0 (gI σ 9 g0 0).toNatClampNeg)
  )
def F_E_unseized (σ : kS) (g0 : Nat) : Option (Int32) :=
  some ((gI σ 15 g0 0) - (gI σ 16 g0 0))
def F_K_give (σ : kS) (g1 : Nat) (x2 : Int32) (x3 : Int32) : Option (kS) :=
  gd (inb x2 4) (
    gd (inb x2 4) (
      lx (sI σ 14 g1 x2.toNatClampNeg ((gI σ 14 g1 x2.toNatClampNeg) + x3)) (fun σ3 =>
        gd (inb x2 4) (
          lx x2.toNatClampNeg (fun j5 =>
            lx (sI σ3 16 j5 0 ((gI σ3 16 j5 0) + x3)) (fun σ6 =>
              some σ6
            )
          )
        )
      )
    )
  )
def F_L_drop_4 : Nat → kS → Nat → Int32 → Int32 → Int32 → Option (kS × Int32 × Int32)
  | 0, _, _, _, _, _ => none
  | n + 1, σ, g0, x1, x2, x3 =>
    if (gI σ 19 g0 0) ≤ x3 then (
      some (σ, x2, x3)
    ) else (
      gd (inb x3 12) (
        if (gI σ 18 g0 x3.toNatClampNeg) = x1 then (
          F_L_drop_4 n σ g0 x1 x2 (x3 + 1)
        ) else (
          gd (inb x3 12) (
            gd (inb x2 12) (
              lx (sI σ 18 g0 x2.toNatClampNeg (gI σ 18 g0 x3.toNatClampNeg)) (fun σ4 =>
                F_L_drop_4 n σ4 g0 x1 (x2 + 1) (x3 + 1)
              )
            )
          )
        )
      )
    )
def F_L_drop (σ : kS) (g0 : Nat) (x1 : Int32) : Option (kS) :=
  bd (F_L_drop_4 1000 σ g0 x1 0 0) (fun ex1 =>
    lx (sI ex1.1 19 g0 0 ex1.2.1) (fun σ2 =>
      some σ2
    )
  )
def F_K_enter (σ : kS) (g1 : Nat) (x2 : Int32) (x3 : Int32) : Option (kS) :=
  lx (sI σ 7 g1 0 x2) (fun σ1 =>
    lx (sI σ1 10 g1 0 1) (fun σ2 =>
      lx (sL σ2 2 g1 0 ((gL σ2 0 0 0) + x3.toInt64)) (fun σ3 =>
        lx (sL σ3 3 g1 0 (gL σ3 1 0 0)) (fun σ4 =>
          lx (sL σ4 1 0 0 ((gL σ4 1 0 0) + 1)) (fun σ5 =>
            some σ5
          )
        )
      )
    )
  )
def F_K_serve_21 : Nat → kS → Int32 → Nat → Int32 → Option (Nat × kS × Int32)
  | 0, _, _, _, _ => none
  | n + 1, σ, x1, g2, x3 =>
    if x3 ≤ 0 then (
      some (1, σ, x3)
    ) else (
      gd (inb 0 12) (
        gd (inb (gI σ 18 g2 (0 : Int32).toNatClampNeg) 12) (
          lx (gI σ 18 g2 (0 : Int32).toNatClampNeg).toNatClampNeg (fun j3 =>
            bd (F_P_secondOperand σ j3) (fun r4 =>
              bd (F_E_unseized σ g2) (fun r5 =>
                if r4 ≤ r5 then (
                  bd (F_P_secondOperand σ j3) (fun r6 =>
                    bd (F_K_give σ j3 x1 r6) (fun r7 =>
                      lx (sL r7 6 g2 0 ((gL r7 6 g2 0) + ((gL r7 0 0 0) - (gL r7 4 j3 0)))) (fun σ8 =>
                        bd (F_L_drop σ8 g2 (gI σ8 2 j3 0)) (fun r9 =>
                          bd (F_K_enter r9 j3 1 0) (fun r10 =>
                            F_K_serve_21 n r10 x1 g2 (x3 + (-1))
                          )
                        )
                      )
                    )
                  )
                ) else (
                  some (0, σ, x3)
                )
              )
            )
          )
        )
      )
    )
def F_K_serve (σ : kS) (x1 : Int32) : Option (kS) :=
  if x1 = (-1) then (
    some σ
  ) else (
    gd (inb x1 4) (
      lx x1.toNatClampNeg (fun j2 =>
        lx (gI σ 19 j2 0 : Int32) (fun v3 =>
          bd (F_K_serve_21 1000 σ x1 j2 v3) (fun ex4 =>
            if ex4.1 = 0 then (
              some ex4.2.1
            ) else (
              some ex4.2.1
            )
          )
        )
      )
    )
  )
def F_K_resource (σ : kS) (x1 : Int32) (x2 : Int32) (x3 : Int32) : Option (Int32 × kS) :=
  bd (F_K_isResource σ x1) (fun r1 =>
    if r1 = 0 then (
      some (0, σ)
    ) else (
      bd (F_K_isWithin σ x2 0 9) (fun r2 =>
        if r2 = 0 then (
          some (0, σ)
        ) else (
          gd (inb x1 4) (
            lx x1.toNatClampNeg (fun j4 =>
              if (gI σ 16 j4 0) ≤ x2 then (
                gd (inb x1 4) (
                  lx x1.toNatClampNeg (fun j6 =>
                    lx (sI σ 15 j6 0 x2) (fun σ7 =>
                      gd (inb x1 4) (
                        lx x1.toNatClampNeg (fun j9 =>
                          gd (bz x3) (
                            lx (sI σ7 17 j9 0 x3) (fun σ11 =>
                              bd (F_K_serve σ11 x1) (fun r12 =>
                                some (1, r12)
                              )
                            )
                          )
                        )
                      )
                    )
                  )
                )
              ) else (
                some (0, σ)
              )
            )
          )
        )
      )
    )
  )
def F_K_tank (σ : kS) (x1 : Int32) (x2 : Int32) (x3 : Int32) : Option (Int32 × kS) :=
  bd (F_K_isTank σ x1) (fun r1 =>
    if r1 = 0 then (
      some (0, σ)
    ) else (
      bd (F_K_isWithin σ x2 0 1000) (fun r2 =>
        if r2 = 0 then (
          some (0, σ)
        ) else (
          bd (F_K_isWithin σ x3 0 x2) (fun r3 =>
            if r3 = 0 then (
              some (0, σ)
            ) else (
              gd (inb x1 4) (
                lx x1.toNatClampNeg (fun j5 =>
                  lx (sI σ 20 j5 0 x2) (fun σ6 =>
                    gd (inb x1 4) (
                      lx x1.toNatClampNeg (fun j8 =>
                        lx (sI σ6 21 j8 0 x3) (fun σ9 =>
                          some (1, σ9)
                        )
                      )
                    )
                  )
                )
              )
            )
          )
        )
      )
    )
  )
def F_K_activate (σ : kS) (x1 : Int32) (x2 : Int32) : Option (Int32 × kS) :=
  bd (F_K_isProcess σ x1) (fun r1 =>
    if r1 = 0 then (
      some (0, σ)
    ) else (
      bd (F_K_isWithin σ x2 0 1000000) (fun r2 =>
        if r2 = 0 then (
          some (0, σ)
        ) else (
          gd (inb x1 12) (
            lx x1.toNatClampNeg (fun j4 =>
              if (gI σ 7 j4 0) = 0 then (
                bd (F_K_enter σ j4 1 x2) (fun r5 =>
                  some (1, r5)
                )
              ) else (
                if (gI σ 7 j4 0) = 3 then (
                  bd (F_K_enter σ j4 1 x2) (fun r6 =>
                    some (1, r6)
                  )
                ) else (
                  some (0, σ)
                )
              )
            )
          )
        )
      )
    )
  )
def F_P_isBreakable (σ : kS) (g0 : Nat) : Option (Int32) :=
  if (gI σ 7 g0 0) = 2 then (
    some 1
  ) else (
    if (gI σ 7 g0 0) = 3 then (
      some 1
    ) else (
      if (gI σ 7 g0 0) = 4 then (
        some 1
      ) else (
        if (gI σ 7 g0 0) = 5 then (
          some 1
        ) else (
          some 0
        )
      )
    )
  )
def F_P_firstOperand (σ : kS) (g0 : Nat) : Option (Int32) :=
  gd (inb (gI σ 9 g0 0) 10) (
    some (gI σ 12 g0 (gI σ 9 g0 0).toNatClampNeg)
  )
def F_K_lineOf (σ : kS) (g1 : Nat) : Option (Int32) :=
  if (gI σ 7 g1 0) = 4 then (
    bd (F_P_firstOperand σ g1) (fun r1 =>
      some r1
    )
  ) else (
    some (-1)
  )
def F_K_leave (σ : kS) (g1 : Nat) : Option (kS) :=
  lx (sI σ 10 g1 0 0) (fun σ1 =>
    if (gI σ1 7 g1 0) = 4 then (
      bd (F_P_firstOperand σ1 g1) (fun r3 =>
        gd (inb r3 4) (
          lx r3.toNatClampNeg (fun j5 =>
            bd (F_L_drop σ1 j5 (gI σ1 2 g1 0)) (fun r6 =>
              if (gI r6 7 g1 0) = 5 then (
                bd (F_L_drop r6 4 (gI r6 2 g1 0)) (fun r7 =>
                  some r7
                )
              ) else (
                some r6
              )
            )
          )
        )
      )
    ) else (
      if (gI σ1 7 g1 0) = 5 then (
        bd (F_L_drop σ1 4 (gI σ1 2 g1 0)) (fun r2 =>
          some r2
        )
      ) else (
        some σ1
      )
    )
  )
def F_K_interrupt (σ : kS) (x1 : Int32) : Option (Int32 × kS) :=
  bd (F_K_isProcess σ x1) (fun r1 =>
    if r1 = 0 then (
      some (0, σ)
    ) else (
      gd (inb x1 12) (
        lx x1.toNatClampNeg (fun j3 =>
          bd (F_P_isBreakable σ j3) (fun r4 =>
            if r4 = 0 then (
              some (0, σ)
            ) else (
              gd (inb x1 12) (
                lx x1.toNatClampNeg (fun j6 =>
                  bd (F_K_lineOf σ j6) (fun r7 =>
                    bd (F_K_leave σ j6) (fun r8 =>
                      lx (sI r8 8 j6 0 (gI r8 6 j6 0)) (fun σ9 =>
                        bd (F_K_enter σ9 j6 1 0) (fun r10 =>
                          bd (F_K_serve r10 r7) (fun r11 =>
                            some (1, r11)
                          )
                        )
                      )
                    )
                  )
                )
              )
            )
          )
        )
      )
    )
  )
def F_P_isOver (σ : kS) (g0 : Nat) : Option (Int32) :=
  if (gI σ 7 g0 0) = 6 then (
    some 1
  ) else (
    if (gI σ 7 g0 0) = 7 then (
      some 1
    ) else (
      some 0
    )
  )
def F_K_takeBack (σ : kS) (g1 : Nat) (x2 : Int32) (x3 : Int32) : Option (kS) :=
  gd (inb x2 4) (
    gd (inb x2 4) (
      lx (sI σ 14 g1 x2.toNatClampNeg ((gI σ 14 g1 x2.toNatClampNeg) - x3)) (fun σ3 =>
        gd (inb x2 4) (
          lx x2.toNatClampNeg (fun j5 =>
            lx (sI σ3 16 j5 0 ((gI σ3 16 j5 0) - x3)) (fun σ6 =>
              some σ6
            )
          )
        )
      )
    )
  )
def F_K_giveBack (σ : kS) (g1 : Nat) (x2 : Int32) (x3 : Int32) : Option (kS) :=
  gd (inb x2 4) (
    bd (F_K_takeBack σ g1 x2 (if (gI σ 14 g1 x2.toNatClampNeg) < x3 then (gI σ 14 g1 x2.toNatClampNeg) else x3)) (fun r2 =>
      bd (F_K_serve r2 x2) (fun r3 =>
        some r3
      )
    )
  )
def F_K_kill_52 : Nat → kS → Nat → Int32 → Int32 → Option (kS × Int32)
  | 0, _, _, _, _ => none
  | n + 1, σ, g2, x3, x4 =>
    if (gI σ 3 g2 0) ≤ x4 then (
      some (σ, x4)
    ) else (
      gd (inb x4 10) (
        if (gI σ 11 g2 x4.toNatClampNeg) = 3 then (
          gd (inb x4 10) (
            gd (inb x4 10) (
              bd (F_K_giveBack σ g2 (gI σ 12 g2 x4.toNatClampNeg) (gI σ 13 g2 x4.toNatClampNeg)) (fun r4 =>
                F_K_kill_52 n r4 g2 x3 (x4 + 1)
              )
            )
          )
        ) else (
          F_K_kill_52 n σ g2 x3 (x4 + 1)
        )
      )
    )
def F_K_kill (σ : kS) (x1 : Int32) : Option (Int32 × kS) :=
  bd (F_K_isProcess σ x1) (fun r1 =>
    if r1 = 0 then (
      some (0, σ)
    ) else (
      gd (inb x1 12) (
        lx x1.toNatClampNeg (fun j3 =>
          bd (F_P_isOver σ j3) (fun r4 =>
            if r4 = 0 then (
              gd (inb x1 12) (
                lx x1.toNatClampNeg (fun j6 =>
                  bd (F_K_lineOf σ j6) (fun r7 =>
                    bd (F_K_leave σ j6) (fun r8 =>
                      lx (sI r8 7 j6 0 7) (fun σ9 =>
                        lx (gI σ9 8 j6 0 : Int32) (fun v10 =>
                          bd (F_K_kill_52 1000 σ9 j6 r7 v10) (fun ex11 =>
                            bd (F_K_serve ex11.1 r7) (fun r12 =>
                              some (1, r12)
                            )
                          )
                        )
                      )
                    )
                  )
                )
              )
            ) else (
              some (0, σ)
            )
          )
        )
      )
    )
  )
def F_P_isBefore (σ : kS) (g0 : Nat) (g1 : Nat) : Option (Int32) :=
  if (lg_cmp (gL σ 2 g0 0) (gL σ 2 g1 0)) = 0 then (
    if (gI σ 4 g0 0) = (gI σ 4 g1 0) then (
      if 0 ≤ (lg_cmp (gL σ 3 g0 0) (gL σ 3 g1 0)) then (
        some 0
      ) else (
        some 1
      )
    ) else (
      if (gI σ 4 g1 0) ≤ (gI σ 4 g0 0) then (
        some 0
      ) else (
        some 1
      )
    )
  ) else (
    if 0 ≤ (lg_cmp (gL σ 2 g0 0) (gL σ 2 g1 0)) then (
      some 0
    ) else (
      some 1
    )
  )
def F_K_firstEntry_4 : Nat → kS → Int32 → Int32 → Option (Int32 × Int32)
  | 0, _, _, _ => none
  | n + 1, σ, x1, x2 =>
    if (gI σ 0 0 0) ≤ x2 then (
      some (x1, x2)
    ) else (
      gd (inb x2 12) (
        lx x2.toNatClampNeg (fun j2 =>
          if (gI σ 10 j2 0) = 0 then (
            F_K_firstEntry_4 n σ x1 (x2 + 1)
          ) else (
            if x1 = (-1) then (
              F_K_firstEntry_4 n σ x2 (x2 + 1)
            ) else (
              gd (inb x2 12) (
                lx x2.toNatClampNeg (fun j4 =>
                  gd (inb x1 12) (
                    lx x1.toNatClampNeg (fun j6 =>
                      bd (F_P_isBefore σ j4 j6) (fun r7 =>
                        if r7 = 0 then (
                          F_K_firstEntry_4 n σ x1 (x2 + 1)
                        ) else (
                          F_K_firstEntry_4 n σ x2 (x2 + 1)
                        )
                      )
                    )
                  )
                )
              )
            )
          )
        )
      )
    )
def F_K_firstEntry (σ : kS) : Option (Int32) :=
  bd (F_K_firstEntry_4 1000 σ (-1) 0) (fun ex1 =>
    some ex1.1
  )
def F_K_moveClock_2 : Nat → kS → Int64 → Int32 → Option (kS × Int32)
  | 0, _, _, _ => none
  | n + 1, σ, x1, x3 =>
    if 4 ≤ x3 then (
      some (σ, x3)
    ) else (
      gd (inb x3 4) (
        lx x3.toNatClampNeg (fun j2 =>
          gd (inb x3 4) (
            lx x3.toNatClampNeg (fun j4 =>
              lx (sL σ 5 j2 0 ((gL σ 5 j2 0) + (((gI σ 16 j4 0).toInt64) * (x1 - (gL σ 0 0 0))))) (fun σ5 =>
                F_K_moveClock_2 n σ5 x1 (x3 + 1)
              )
            )
          )
        )
      )
    )
def F_K_moveClock (σ : kS) (x1 : Int64) : Option (kS) :=
  bd (F_K_moveClock_2 1000 σ x1 0) (fun ex1 =>
    lx (sL ex1.1 0 0 0 x1) (fun σ2 =>
      some σ2
    )
  )
def F_C_add (σ : kS) (x1 : Int32) : Option (kS) :=
  lx (sI σ 23 0 0 (((gI σ 23 0 0) + 1) - ((gI σ 23 0 0) + 1) / 64 * 64)) (fun σ1 =>
    gd (inb (gI σ1 23 0 0) 64) (
      lx (sI σ1 22 0 (gI σ1 23 0 0).toNatClampNeg x1) (fun σ3 =>
        lx (sI σ3 24 0 0 (if 64 < ((gI σ3 24 0 0) + 1) then 64 else ((gI σ3 24 0 0) + 1))) (fun σ4 =>
          some σ4
        )
      )
    )
  )
def F_K_begin (σ : kS) (g1 : Nat) : Option (kS) :=
  lx (sI σ 10 g1 0 0) (fun σ1 =>
    bd (F_K_moveClock σ1 (gL σ1 2 g1 0)) (fun r2 =>
      lx (sI r2 7 g1 0 1) (fun σ3 =>
        bd (F_C_add σ3 ((gI σ3 2 g1 0) + (16 * (gI σ3 8 g1 0)))) (fun r4 =>
          some r4
        )
      )
    )
  )
def F_K_countBefore_13 : Nat → kS → Int32 → Nat → Int32 → Option (Int32)
  | 0, _, _, _, _ => none
  | n + 1, σ, x2, g3, x4 =>
    if (gI σ 19 g3 0) ≤ x4 then (
      some (x4)
    ) else (
      gd (inb x4 12) (
        gd (inb (gI σ 18 g3 x4.toNatClampNeg) 12) (
          lx (gI σ 18 g3 x4.toNatClampNeg).toNatClampNeg (fun j3 =>
            if x2 < (gI σ 4 j3 0) then (
              some (x4)
            ) else (
              F_K_countBefore_13 n σ x2 g3 (x4 + 1)
            )
          )
        )
      )
    )
def F_K_countBefore (σ : kS) (x1 : Int32) (x2 : Int32) : Option (Int32) :=
  gd (inb x1 4) (
    lx x1.toNatClampNeg (fun j2 =>
      bd (F_K_countBefore_13 1000 σ x2 j2 0) (fun ex3 =>
        some ex3
      )
    )
  )
def F_K_seizeFree (σ : kS) (g1 : Nat) : Option (Int32 × kS) :=
  bd (F_P_firstOperand σ g1) (fun r1 =>
    bd (F_P_secondOperand σ g1) (fun r2 =>
      bd (F_K_countBefore σ r1 (gI σ 4 g1 0)) (fun r3 =>
        if 0 < r3 then (
          some (0, σ)
        ) else (
          gd (inb r1 4) (
            lx r1.toNatClampNeg (fun j5 =>
              bd (F_E_unseized σ j5) (fun r6 =>
                if r2 ≤ r6 then (
                  bd (F_K_give σ g1 r1 r2) (fun r7 =>
                    some (1, r7)
                  )
                ) else (
                  some (0, σ)
                )
              )
            )
          )
        )
      )
    )
  )
def F_K_withinReach_13 : Nat → kS → Nat → Int32 → Int32 → Int32 → Option (Int32 × Int32)
  | 0, _, _, _, _, _ => none
  | n + 1, σ, g1, x2, x3, x4 =>
    if (gI σ 0 0 0) ≤ x4 then (
      some (x3, x4)
    ) else (
      gd (inb x4 12) (
        lx x4.toNatClampNeg (fun j2 =>
          if (gI σ 4 j2 0) ≤ (gI σ 4 g1 0) then (
            F_K_withinReach_13 n σ g1 x2 x3 (x4 + 1)
          ) else (
            gd (inb x4 12) (
              lx x4.toNatClampNeg (fun j4 =>
                gd (inb x2 4) (
                  lx (x3 + (gI σ 14 j4 x2.toNatClampNeg) : Int32) (fun v6 =>
                    F_K_withinReach_13 n σ g1 x2 v6 (x4 + 1)
                  )
                )
              )
            )
          )
        )
      )
    )
def F_K_withinReach (σ : kS) (g1 : Nat) (x2 : Int32) : Option (Int32) :=
  gd (inb x2 4) (
    lx x2.toNatClampNeg (fun j2 =>
      bd (F_E_unseized σ j2) (fun r3 =>
        bd (F_K_withinReach_13 1000 σ g1 x2 r3 0) (fun ex4 =>
          some ex4.1
        )
      )
    )
  )
def F_K_nextLoser_16 : Nat → kS → Int32 → Int32 → Int32 → Int32 → Option (Int32 × Int32 × Int32)
  | 0, _, _, _, _, _ => none
  | n + 1, σ, x2, x3, x4, x5 =>
    if x5 < 0 then (
      some (x3, x4, x5)
    ) else (
      gd (inb x5 12) (
        lx x5.toNatClampNeg (fun j2 =>
          gd (inb x2 4) (
            if (gI σ 14 j2 x2.toNatClampNeg) ≤ 0 then (
              F_K_nextLoser_16 n σ x2 x3 x4 (x5 + (-1))
            ) else (
              gd (inb x5 12) (
                lx x5.toNatClampNeg (fun j5 =>
                  if (gI σ 4 j5 0) ≤ x4 then (
                    F_K_nextLoser_16 n σ x2 x3 x4 (x5 + (-1))
                  ) else (
                    gd (inb x5 12) (
                      lx x5.toNatClampNeg (fun j7 =>
                        lx (gI σ 4 j7 0 : Int32) (fun v8 =>
                          F_K_nextLoser_16 n σ x2 x5 v8 (x5 + (-1))
                        )
                      )
                    )
                  )
                )
              )
            )
          )
        )
      )
    )
def F_K_nextLoser (σ : kS) (g1 : Nat) (x2 : Int32) : Option (Int32) :=
  lx (gI σ 4 g1 0 : Int32) (fun v1 =>
    lx ((gI σ 0 0 0) - 1 : Int32) (fun v2 =>
      bd (F_K_nextLoser_16 1000 σ x2 (-1) v1 v2) (fun ex3 =>
        some ex3.1
      )
    )
  )
def F_K_takeFromLosers_3 : Nat → kS → Nat → Int32 → Int32 → Int32 → Option (Nat × kS × Int32)
  | 0, _, _, _, _, _ => none
  | n + 1, σ, g1, x2, x3, x4 =>
    if 12 ≤ x4 then (
      some (1, σ, x4)
    ) else (
      gd (inb x2 4) (
        lx x2.toNatClampNeg (fun j2 =>
          bd (F_E_unseized σ j2) (fun r3 =>
            if x3 ≤ r3 then (
              some (1, σ, x4)
            ) else (
              bd (F_K_nextLoser σ g1 x2) (fun r4 =>
                if r4 = (-1) then (
                  some (0, σ, x4)
                ) else (
                  gd (inb r4 12) (
                    lx r4.toNatClampNeg (fun j6 =>
                      gd (inb r4 12) (
                        lx r4.toNatClampNeg (fun j8 =>
                          gd (inb x2 4) (
                            bd (F_K_takeBack σ j6 x2 (gI σ 14 j8 x2.toNatClampNeg)) (fun r10 =>
                              gd (inb x4 12) (
                                lx (sI r10 1 0 x4.toNatClampNeg r4) (fun σ12 =>
                                  F_K_takeFromLosers_3 n σ12 g1 x2 x3 (x4 + 1)
                                )
                              )
                            )
                          )
                        )
                      )
                    )
                  )
                )
              )
            )
          )
        )
      )
    )
def F_K_takeFromLosers (σ : kS) (g1 : Nat) (x2 : Int32) (x3 : Int32) : Option (Int32 × kS) :=
  bd (F_K_takeFromLosers_3 1000 σ g1 x2 x3 0) (fun ex1 =>
    if ex1.1 = 0 then (
      some (ex1.2.2, ex1.2.1)
    ) else (
      some (ex1.2.2, ex1.2.1)
    )
  )
def F_K_seizeByForce_65 : Nat → kS → Int32 → Int32 → Int32 → Option (kS × Int32)
  | 0, _, _, _, _ => none
  | n + 1, σ, x2, x4, x5 =>
    if x4 ≤ x5 then (
      some (σ, x5)
    ) else (
      gd (inb x5 12) (
        bd (F_K_interrupt σ (gI σ 1 0 x5.toNatClampNeg)) (fun r2 =>
          F_K_seizeByForce_65 n r2.2 x2 x4 (x5 + 1)
        )
      )
    )
def F_K_seizeByForce (σ : kS) (g1 : Nat) : Option (Int32 × kS) :=
  bd (F_P_firstOperand σ g1) (fun r1 =>
    bd (F_P_secondOperand σ g1) (fun r2 =>
      bd (F_K_countBefore σ r1 (gI σ 4 g1 0)) (fun r3 =>
        if 0 < r3 then (
          some (0, σ)
        ) else (
          gd (inb r1 4) (
            lx r1.toNatClampNeg (fun j5 =>
              if (gI σ 17 j5 0) = 0 then (
                some (0, σ)
              ) else (
                bd (F_K_withinReach σ g1 r1) (fun r6 =>
                  if r2 ≤ r6 then (
                    bd (F_K_takeFromLosers σ g1 r1 r2) (fun r7 =>
                      lx (r7.1 : Int32) (fun v8 =>
                        bd (F_K_give r7.2 g1 r1 r2) (fun r9 =>
                          bd (F_K_seizeByForce_65 1000 r9 r1 v8 0) (fun ex10 =>
                            bd (F_K_serve ex10.1 r1) (fun r11 =>
                              some (1, r11)
                            )
                          )
                        )
                      )
                    )
                  ) else (
                    some (0, σ)
                  )
                )
              )
            )
          )
        )
      )
    )
  )
def F_L_insert_15 : Nat → kS → Nat → Int32 → Int32 → Int32 → Option (kS × Int32)
  | 0, _, _, _, _, _ => none
  | n + 1, σ, g0, x1, x2, x3 =>
    if x3 ≤ x1 then (
      some (σ, x3)
    ) else (
      gd (inb (x3 - 1) 12) (
        gd (inb x3 12) (
          lx (sI σ 18 g0 x3.toNatClampNeg (gI σ 18 g0 (x3 - 1).toNatClampNeg)) (fun σ3 =>
            F_L_insert_15 n σ3 g0 x1 x2 (x3 + (-1))
          )
        )
      )
    )
def F_L_insert (σ : kS) (g0 : Nat) (x1 : Int32) (x2 : Int32) : Option (kS) :=
  if (gI σ 19 g0 0) < 12 then (
    lx (gI σ 19 g0 0 : Int32) (fun v1 =>
      bd (F_L_insert_15 1000 σ g0 x1 x2 v1) (fun ex2 =>
        gd (inb x1 12) (
          lx (sI ex2.1 18 g0 x1.toNatClampNeg x2) (fun σ4 =>
            lx (sI σ4 19 g0 0 ((gI σ4 19 g0 0) + 1)) (fun σ5 =>
              some σ5
            )
          )
        )
      )
    )
  ) else (
    some σ
  )
def F_K_standInLine (σ : kS) (g1 : Nat) : Option (Int32 × kS) :=
  bd (F_P_firstOperand σ g1) (fun r1 =>
    gd (inb r1 4) (
      lx r1.toNatClampNeg (fun j3 =>
        bd (F_K_countBefore σ r1 (gI σ 4 g1 0)) (fun r4 =>
          bd (F_L_insert σ j3 r4 (gI σ 2 g1 0)) (fun r5 =>
            lx (sI r5 7 g1 0 4) (fun σ6 =>
              lx (sL σ6 4 g1 0 (gL σ6 0 0 0)) (fun σ7 =>
                some (0, σ7)
              )
            )
          )
        )
      )
    )
  )
def F_T_put (σ : kS) (g0 : Nat) (x1 : Int32) : Option (Int32 × kS) :=
  if ((gI σ 21 g0 0) + x1) ≤ (gI σ 20 g0 0) then (
    lx (sI σ 21 g0 0 ((gI σ 21 g0 0) + x1)) (fun σ1 =>
      some (1, σ1)
    )
  ) else (
    some (0, σ)
  )
def F_T_take (σ : kS) (g0 : Nat) (x1 : Int32) : Option (Int32 × kS) :=
  if x1 ≤ (gI σ 21 g0 0) then (
    lx (sI σ 21 g0 0 ((gI σ 21 g0 0) - x1)) (fun σ1 =>
      some (1, σ1)
    )
  ) else (
    some (0, σ)
  )
def F_K_meetCondition (σ : kS) (g1 : Nat) : Option (Int32 × kS) :=
  bd (F_P_firstOperand σ g1) (fun r1 =>
    gd (inb (gI σ 9 g1 0) 10) (
      if (gI σ 11 g1 (gI σ 9 g1 0).toNatClampNeg) = 4 then (
        gd (inb r1 4) (
          lx r1.toNatClampNeg (fun j4 =>
            bd (F_P_secondOperand σ g1) (fun r5 =>
              bd (F_T_put σ j4 r5) (fun r6 =>
                gd (bz r6.1) (
                  some (r6.1, r6.2)
                )
              )
            )
          )
        )
      ) else (
        if (gI σ 11 g1 (gI σ 9 g1 0).toNatClampNeg) = 5 then (
          gd (inb r1 4) (
            lx r1.toNatClampNeg (fun j9 =>
              bd (F_P_secondOperand σ g1) (fun r10 =>
                bd (F_T_take σ j9 r10) (fun r11 =>
                  gd (bz r11.1) (
                    some (r11.1, r11.2)
                  )
                )
              )
            )
          )
        ) else (
          bd (F_K_isProcess σ r1) (fun r13 =>
            if r13 = 0 then (
              some (1, σ)
            ) else (
              gd (inb r1 12) (
                lx r1.toNatClampNeg (fun j15 =>
                  bd (F_P_isOver σ j15) (fun r16 =>
                    if r16 = 0 then (
                      some (0, σ)
                    ) else (
                      some (1, σ)
                    )
                  )
                )
              )
            )
          )
        )
      )
    )
  )
def F_K_waitForCondition (σ : kS) (g1 : Nat) : Option (Int32 × kS) :=
  bd (F_L_insert σ 4 (gI σ 19 4 0) (gI σ 2 g1 0)) (fun r1 =>
    lx (sI r1 7 g1 0 5) (fun σ2 =>
      some (0, σ2)
    )
  )
def F_K_perform (σ : kS) (g1 : Nat) : Option (Int32 × kS) :=
  lx (sI σ 9 g1 0 (gI σ 8 g1 0)) (fun σ1 =>
    lx (sI σ1 8 g1 0 ((gI σ1 8 g1 0) + 1)) (fun σ2 =>
      bd (F_P_firstOperand σ2 g1) (fun r3 =>
        gd (inb (gI σ2 9 g1 0) 10) (
          if (gI σ2 11 g1 (gI σ2 9 g1 0).toNatClampNeg) = 0 then (
            bd (F_K_enter σ2 g1 2 r3) (fun r5 =>
              some (0, r5)
            )
          ) else (
            if (gI σ2 11 g1 (gI σ2 9 g1 0).toNatClampNeg) = 1 then (
              lx (sI σ2 7 g1 0 3) (fun σ6 =>
                some (0, σ6)
              )
            ) else (
              if (gI σ2 11 g1 (gI σ2 9 g1 0).toNatClampNeg) = 2 then (
                bd (F_K_seizeFree σ2 g1) (fun r7 =>
                  if r7.1 = 0 then (
                    bd (F_K_seizeByForce r7.2 g1) (fun r8 =>
                      if r8.1 = 0 then (
                        bd (F_K_standInLine r8.2 g1) (fun r9 =>
                          if r9.1 = 0 then (
                            some (0, r9.2)
                          ) else (
                            some (1, r9.2)
                          )
                        )
                      ) else (
                        some (1, r8.2)
                      )
                    )
                  ) else (
                    some (1, r7.2)
                  )
                )
              ) else (
                if (gI σ2 11 g1 (gI σ2 9 g1 0).toNatClampNeg) = 3 then (
                  bd (F_P_secondOperand σ2 g1) (fun r10 =>
                    bd (F_K_giveBack σ2 g1 r3 r10) (fun r11 =>
                      some (1, r11)
                    )
                  )
                ) else (
                  if (gI σ2 11 g1 (gI σ2 9 g1 0).toNatClampNeg) = 4 then (
                    bd (F_K_meetCondition σ2 g1) (fun r12 =>
                      if r12.1 = 0 then (
                        bd (F_K_waitForCondition r12.2 g1) (fun r13 =>
                          if r13.1 = 0 then (
                            some (0, r13.2)
                          ) else (
                            some (1, r13.2)
                          )
                        )
                      ) else (
                        some (1, r12.2)
                      )
                    )
                  ) else (
                    if (gI σ2 11 g1 (gI σ2 9 g1 0).toNatClampNeg) = 5 then (
                      bd (F_K_meetCondition σ2 g1) (fun r14 =>
                        if r14.1 = 0 then (
                          bd (F_K_waitForCondition r14.2 g1) (fun r15 =>
                            if r15.1 = 0 then (
                              some (0, r15.2)
                            ) else (
                              some (1, r15.2)
                            )
                          )
                        ) else (
                          some (1, r14.2)
                        )
                      )
                    ) else (
                      if (gI σ2 11 g1 (gI σ2 9 g1 0).toNatClampNeg) = 6 then (
                        bd (F_K_meetCondition σ2 g1) (fun r16 =>
                          if r16.1 = 0 then (
                            bd (F_K_waitForCondition r16.2 g1) (fun r17 =>
                              if r17.1 = 0 then (
                                some (0, r17.2)
                              ) else (
                                some (1, r17.2)
                              )
                            )
                          ) else (
                            some (1, r16.2)
                          )
                        )
                      ) else (
                        if (gI σ2 11 g1 (gI σ2 9 g1 0).toNatClampNeg) = 7 then (
                          bd (F_K_activate σ2 r3 0) (fun r18 =>
                            some (1, r18.2)
                          )
                        ) else (
                          if (gI σ2 11 g1 (gI σ2 9 g1 0).toNatClampNeg) = 8 then (
                            bd (F_K_interrupt σ2 r3) (fun r19 =>
                              some (1, r19.2)
                            )
                          ) else (
                            if (gI σ2 11 g1 (gI σ2 9 g1 0).toNatClampNeg) = 9 then (
                              bd (F_K_kill σ2 r3) (fun r20 =>
                                if (gI r20.2 7 g1 0) = 7 then (
                                  some (0, r20.2)
                                ) else (
                                  some (1, r20.2)
                                )
                              )
                            ) else (
                              some (1, σ2)
                            )
                          )
                        )
                      )
                    )
                  )
                )
              )
            )
          )
        )
      )
    )
  )
def F_P_beginRound (σ : kS) (g0 : Nat) : Option (Int32 × kS) :=
  lx (sI σ 5 g0 0 ((gI σ 5 g0 0) - 1)) (fun σ1 =>
    if 0 < (gI σ1 5 g0 0) then (
      lx (sI σ1 8 g0 0 0) (fun σ2 =>
        some (1, σ2)
      )
    ) else (
      lx (sI σ1 7 g0 0 6) (fun σ3 =>
        some (0, σ3)
      )
    )
  )
def F_K_doTurn_4 : Nat → kS → Nat → Int32 → Int32 → Option (kS × Int32 × Int32)
  | 0, _, _, _, _ => none
  | n + 1, σ, g1, x2, x3 =>
    if x2 = 0 then (
      some (σ, x2, x3)
    ) else (
      if 99 ≤ x3 then (
        some (σ, x2, x3)
      ) else (
        if (gI σ 3 g1 0) ≤ (gI σ 8 g1 0) then (
          bd (F_P_beginRound σ g1) (fun r1 =>
            lx (r1.1 : Int32) (fun v2 =>
              F_K_doTurn_4 n r1.2 g1 v2 (x3 + 1)
            )
          )
        ) else (
          bd (F_K_perform σ g1) (fun r3 =>
            lx (r3.1 : Int32) (fun v4 =>
              F_K_doTurn_4 n r3.2 g1 v4 (x3 + 1)
            )
          )
        )
      )
    )
def F_K_doTurn (σ : kS) (g1 : Nat) : Option (kS) :=
  bd (F_K_doTurn_4 1000 σ g1 1 0) (fun ex1 =>
    some ex1.1
  )
def F_K_goOverConditions_10 : Nat → kS → Int32 → Int32 → Option (kS × Int32 × Int32)
  | 0, _, _, _ => none
  | n + 1, σ, x1, x2 =>
    if x2 ≤ 0 then (
      some (σ, x1, x2)
    ) else (
      gd (inb x1 12) (
        gd (inb (gI σ 18 4 x1.toNatClampNeg) 12) (
          lx (gI σ 18 4 x1.toNatClampNeg).toNatClampNeg (fun j3 =>
            bd (F_K_meetCondition σ j3) (fun r4 =>
              if r4.1 = 0 then (
                F_K_goOverConditions_10 n r4.2 (x1 + 1) (x2 + (-1))
              ) else (
                bd (F_L_drop r4.2 4 (gI r4.2 2 j3 0)) (fun r5 =>
                  bd (F_K_enter r5 j3 1 0) (fun r6 =>
                    F_K_goOverConditions_10 n r6 x1 (x2 + (-1))
                  )
                )
              )
            )
          )
        )
      )
    )
def F_K_goOverConditions (σ : kS) : Option (kS) :=
  lx (gI σ 19 4 0 : Int32) (fun v1 =>
    bd (F_K_goOverConditions_10 1000 σ 0 v1) (fun ex2 =>
      some ex2.1
    )
  )
def F_K_run_38 : Nat → kS → Int32 → Int64 → Int32 → Int32 → Option (kS × Int32 × Int32)
  | 0, _, _, _, _, _ => none
  | n + 1, σ, x1, x2, x4, x5 =>
    if x1 ≤ x4 then (
      some (σ, x4, x5)
    ) else (
      if x5 = (-1) then (
        some (σ, x4, x5)
      ) else (
        gd (inb x5 12) (
          lx x5.toNatClampNeg (fun j2 =>
            if 0 < (lg_cmp (gL σ 2 j2 0) x2) then (
              some (σ, x4, x5)
            ) else (
              gd (inb x5 12) (
                lx x5.toNatClampNeg (fun j4 =>
                  bd (F_K_begin σ j4) (fun r5 =>
                    gd (inb x5 12) (
                      lx x5.toNatClampNeg (fun j7 =>
                        bd (F_K_doTurn r5 j7) (fun r8 =>
                          bd (F_K_goOverConditions r8) (fun r9 =>
                            bd (F_K_firstEntry r9) (fun r10 =>
                              F_K_run_38 n r9 x1 x2 (x4 + 1) r10
                            )
                          )
                        )
                      )
                    )
                  )
                )
              )
            )
          )
        )
      )
    )
def F_K_run (σ : kS) (x1 : Int32) (x2 : Int64) : Option (Int32 × kS) :=
  bd (F_K_isWithin σ x1 0 100) (fun r1 =>
    if r1 = 0 then (
      some ((-1), σ)
    ) else (
      if (lg_cmp x2 (gL σ 0 0 0)) < 0 then (
        some ((-1), σ)
      ) else (
        if (lg_cmp x2 1000000000000) ≤ 0 then (
          bd (F_K_firstEntry σ) (fun r2 =>
            bd (F_K_run_38 1000 σ x1 x2 0 r2) (fun ex3 =>
              if x1 ≤ ex3.2.1 then (
                some (ex3.2.1, ex3.1)
              ) else (
                bd (F_K_moveClock ex3.1 x2) (fun r4 =>
                  some (ex3.2.1, r4)
                )
              )
            )
          )
        ) else (
          some ((-1), σ)
        )
      )
    )
  )
def F_K_now (σ : kS) : Option (Int64) :=
  some (gL σ 0 0 0)
def F_K_next (σ : kS) : Option (Int64) :=
  bd (F_K_firstEntry σ) (fun r1 =>
    if r1 = (-1) then (
      some (-1)
    ) else (
      gd (inb r1 12) (
        lx r1.toNatClampNeg (fun j3 =>
          some (gL σ 2 j3 0)
        )
      )
    )
  )
def F_K_state (σ : kS) (x1 : Int32) : Option (Int32) :=
  bd (F_K_isProcess σ x1) (fun r1 =>
    if r1 = 0 then (
      some (-1)
    ) else (
      gd (inb x1 12) (
        lx x1.toNatClampNeg (fun j3 =>
          some (gI σ 7 j3 0)
        )
      )
    )
  )
def F_K_place (σ : kS) (x1 : Int32) : Option (Int32) :=
  bd (F_K_isProcess σ x1) (fun r1 =>
    if r1 = 0 then (
      some (-1)
    ) else (
      gd (inb x1 12) (
        lx x1.toNatClampNeg (fun j3 =>
          some (gI σ 8 j3 0)
        )
      )
    )
  )
def F_K_held (σ : kS) (x1 : Int32) (x2 : Int32) : Option (Int32) :=
  bd (F_K_isProcess σ x1) (fun r1 =>
    if r1 = 0 then (
      some (-1)
    ) else (
      bd (F_K_isResource σ x2) (fun r2 =>
        if r2 = 0 then (
          some (-1)
        ) else (
          gd (inb x1 12) (
            lx x1.toNatClampNeg (fun j4 =>
              gd (inb x2 4) (
                some (gI σ 14 j4 x2.toNatClampNeg)
              )
            )
          )
        )
      )
    )
  )
def F_K_free (σ : kS) (x1 : Int32) : Option (Int32) :=
  bd (F_K_isResource σ x1) (fun r1 =>
    if r1 = 0 then (
      some (-1)
    ) else (
      gd (inb x1 4) (
        lx x1.toNatClampNeg (fun j3 =>
          bd (F_E_unseized σ j3) (fun r4 =>
            some r4
          )
        )
      )
    )
  )
def F_K_waiting (σ : kS) (x1 : Int32) : Option (Int32) :=
  if x1 = 4 then (
    some (gI σ 19 4 0)
  ) else (
    bd (F_K_isResource σ x1) (fun r1 =>
      if r1 = 0 then (
        some (-1)
      ) else (
        gd (inb x1 4) (
          lx x1.toNatClampNeg (fun j3 =>
            some (gI σ 19 j3 0)
          )
        )
      )
    )
  )
def F_K_area (σ : kS) (x1 : Int32) : Option (Int64) :=
  bd (F_K_isResource σ x1) (fun r1 =>
    if r1 = 0 then (
      some (-1)
    ) else (
      gd (inb x1 4) (
        lx x1.toNatClampNeg (fun j3 =>
          some (gL σ 5 j3 0)
        )
      )
    )
  )
def F_K_waited (σ : kS) (x1 : Int32) : Option (Int64) :=
  bd (F_K_isResource σ x1) (fun r1 =>
    if r1 = 0 then (
      some (-1)
    ) else (
      gd (inb x1 4) (
        lx x1.toNatClampNeg (fun j3 =>
          some (gL σ 6 j3 0)
        )
      )
    )
  )
def F_K_level (σ : kS) (x1 : Int32) : Option (Int32) :=
  bd (F_K_isTank σ x1) (fun r1 =>
    if r1 = 0 then (
      some (-1)
    ) else (
      gd (inb x1 4) (
        lx x1.toNatClampNeg (fun j3 =>
          some (gI σ 21 j3 0)
        )
      )
    )
  )
def F_K_stuck_18 : Nat → kS → Int32 → Int32 → Option (Int32 × Int32)
  | 0, _, _, _ => none
  | n + 1, σ, x1, x2 =>
    if 4 ≤ x2 then (
      some (x1, x2)
    ) else (
      if x1 = 0 then (
        gd (inb x2 4) (
          lx x2.toNatClampNeg (fun j2 =>
            if (gI σ 19 j2 0) ≤ 0 then (
              F_K_stuck_18 n σ 0 (x2 + 1)
            ) else (
              F_K_stuck_18 n σ 1 (x2 + 1)
            )
          )
        )
      ) else (
        F_K_stuck_18 n σ 1 (x2 + 1)
      )
    )
def F_K_stuck (σ : kS) : Option (Int32) :=
  if (gI σ 19 4 0) ≤ 0 then (
    bd (F_K_stuck_18 1000 σ 0 0) (fun ex1 =>
      if ex1.1 = 0 then (
        some 0
      ) else (
        bd (F_K_firstEntry σ) (fun r2 =>
          if r2 = (-1) then (
            some 1
          ) else (
            some 0
          )
        )
      )
    )
  ) else (
    bd (F_K_stuck_18 1000 σ 1 0) (fun ex3 =>
      if ex3.1 = 0 then (
        some 0
      ) else (
        bd (F_K_firstEntry σ) (fun r4 =>
          if r4 = (-1) then (
            some 1
          ) else (
            some 0
          )
        )
      )
    )
  )
def F_C_before (σ : kS) (x1 : Int32) : Option (Int32) :=
  if x1 < 0 then (
    some (-1)
  ) else (
    if x1 < (gI σ 24 0 0) then (
      gd (inb ((((gI σ 23 0 0) - x1) + 64) - (((gI σ 23 0 0) - x1) + 64) / 64 * 64) 64) (
        some (gI σ 22 0 ((((gI σ 23 0 0) - x1) + 64) - (((gI σ 23 0 0) - x1) + 64) / 64 * 64).toNatClampNeg)
      )
    ) else (
      some (-1)
    )
  )
def F_K_traced (σ : kS) (x1 : Int32) : Option (Int32) :=
  bd (F_C_before σ x1) (fun r1 =>
    some r1
  )
