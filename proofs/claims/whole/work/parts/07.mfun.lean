def F_M_process (σ : kS) (x1 : Int32) (x2 : Int32) (x3 : Int32) : Option (Int32 × kS) :=
  if (gI σ 30 0 0) = 12 then (
    some ((-1), σ)
  ) else (
    if x1 < (-4) then (
      some ((-1), σ)
    ) else (
      if 4 < x1 then (
        some ((-1), σ)
      ) else (
        if x2 < 1 then (
          some ((-1), σ)
        ) else (
          if 9 < x2 then (
            some ((-1), σ)
          ) else (
            if x3 < 0 then (
              some ((-1), σ)
            ) else (
              if x3 ≤ 10 then (
                gd (inb (gI σ 30 0 0) 12) (
                  lx (sI σ 1 0 (gI σ 30 0 0).toNatClampNeg x1) (fun σ2 =>
                    gd (inb (gI σ2 30 0 0) 12) (
                      lx (sI σ2 2 0 (gI σ2 30 0 0).toNatClampNeg x2) (fun σ4 =>
                        gd (inb (gI σ4 30 0 0) 12) (
                          lx (sI σ4 3 0 (gI σ4 30 0 0).toNatClampNeg x3) (fun σ6 =>
                            gd (inb (gI σ6 30 0 0) 12) (
                              lx (sI σ6 8 0 (gI σ6 30 0 0).toNatClampNeg (-1)) (fun σ8 =>
                                lx (sI σ8 30 0 0 ((gI σ8 30 0 0) + 1)) (fun σ9 =>
                                  some ((gI σ9 30 0 0) - 1, σ9)
                                )
                              )
                            )
                          )
                        )
                      )
                    )
                  )
                )
              ) else (
                some ((-1), σ)
              )
            )
          )
        )
      )
    )
  )
def F_M_within (σ : kS) (x1 : Int32) (x2 : Int32) (x3 : Int32) : Option (Int32) :=
  if x1 < x2 then (
    some 0
  ) else (
    if x3 < x1 then (
      some 0
    ) else (
      some 1
    )
  )
def F_M_fits (σ : kS) (x1 : Int32) (x2 : Int32) (x3 : Int32) : Option (Int32) :=
  if x1 = 0 then (
    bd (F_M_within σ x2 0 1000000) (fun r7 =>
      gd (bz r7) (
        some r7
      )
    )
  ) else (
    if x1 = 1 then (
      some 1
    ) else (
      if 3 < x1 then (
        if 5 < x1 then (
          bd (F_M_within σ x2 0 11) (fun r1 =>
            gd (bz r1) (
              some r1
            )
          )
        ) else (
          bd (F_M_within σ x2 0 3) (fun r3 =>
            if r3 = 0 then (
              some 0
            ) else (
              bd (F_M_within σ x3 1 1000) (fun r4 =>
                if r4 = 0 then (
                  some 0
                ) else (
                  some 1
                )
              )
            )
          )
        )
      ) else (
        bd (F_M_within σ x2 0 3) (fun r5 =>
          if r5 = 0 then (
            some 0
          ) else (
            bd (F_M_within σ x3 1 9) (fun r6 =>
              if r6 = 0 then (
                some 0
              ) else (
                some 1
              )
            )
          )
        )
      )
    )
  )
def F_M_none (σ : kS) (x1 : Int32) : Option (Int32) :=
  if x1 < 0 then (
    some 1
  ) else (
    if x1 < (gI σ 30 0 0) then (
      some 0
    ) else (
      some 1
    )
  )
def F_M_instruct (σ : kS) (x1 : Int32) (x2 : Int32) (x3 : Int32) (x4 : Int32) : Option (Int32 × kS) :=
  bd (F_M_none σ x1) (fun r1 =>
    if r1 = 0 then (
      gd (inb x1 12) (
        if (gI σ 6 0 x1.toNatClampNeg) = 0 then (
          gd (inb x1 12) (
            if (gI σ 4 0 x1.toNatClampNeg) = 10 then (
              some (0, σ)
            ) else (
              bd (F_M_within σ x2 0 9) (fun r4 =>
                if r4 = 0 then (
                  some (0, σ)
                ) else (
                  bd (F_M_fits σ x2 x3 x4) (fun r5 =>
                    if r5 = 0 then (
                      some (0, σ)
                    ) else (
                      gd (inb x1 12) (
                        lx ((10 * x1) + (gI σ 4 0 x1.toNatClampNeg) : Int32) (fun v7 =>
                          gd (inb v7 120) (
                            lx (sI σ 11 0 v7.toNatClampNeg x2) (fun σ9 =>
                              gd (inb v7 120) (
                                lx (sI σ9 12 0 v7.toNatClampNeg x3) (fun σ11 =>
                                  gd (inb v7 120) (
                                    lx (sI σ11 13 0 v7.toNatClampNeg x4) (fun σ13 =>
                                      gd (inb x1 12) (
                                        gd (inb x1 12) (
                                          lx (sI σ13 4 0 x1.toNatClampNeg ((gI σ13 4 0 x1.toNatClampNeg) + 1)) (fun σ16 =>
                                            some (1, σ16)
                                          )
                                        )
                                      )
                                    )
                                  )
                                )
                              )
                            )
                          )
                        )
                      )
                    )
                  )
                )
              )
            )
          )
        ) else (
          some (0, σ)
        )
      )
    ) else (
      some (0, σ)
    )
  )
def F_M_seized_4 : Nat → kS → Int32 → Int32 → Int32 → Option (Int32 × Int32)
  | 0, _, _, _, _ => none
  | n + 1, σ, x1, x2, x3 =>
    if (gI σ 30 0 0) ≤ x3 then (
      some (x2, x3)
    ) else (
      gd (inb ((4 * x3) + x1) 48) (
        lx (x2 + (gI σ 14 0 ((4 * x3) + x1).toNatClampNeg) : Int32) (fun v2 =>
          F_M_seized_4 n σ x1 v2 (x3 + 1)
        )
      )
    )
def F_M_seized (σ : kS) (x1 : Int32) : Option (Int32) :=
  bd (F_M_seized_4 1000 σ x1 0 0) (fun ex1 =>
    some ex1.1
  )
def F_M_done (σ : kS) (x1 : Int32) : Option (Int32) :=
  gd (inb x1 12) (
    some (((10 * x1) + (gI σ 5 0 x1.toNatClampNeg)) - 1)
  )
def F_M_head_4 : Nat → kS → Int32 → Int32 → Int32 → Option (Int32 × Int32)
  | 0, _, _, _, _ => none
  | n + 1, σ, x1, x2, x3 =>
    if (gI σ 30 0 0) ≤ x3 then (
      some (x2, x3)
    ) else (
      gd (inb x3 12) (
        if (gI σ 6 0 x3.toNatClampNeg) = 4 then (
          bd (F_M_done σ x3) (fun r2 =>
            gd (inb r2 120) (
              if (gI σ 12 0 r2.toNatClampNeg) = x1 then (
                if x2 < 0 then (
                  F_M_head_4 n σ x1 x3 (x3 + 1)
                ) else (
                  gd (inb x3 12) (
                    gd (inb x2 12) (
                      if (gI σ 1 0 x3.toNatClampNeg) < (gI σ 1 0 x2.toNatClampNeg) then (
                        F_M_head_4 n σ x1 x3 (x3 + 1)
                      ) else (
                        gd (inb x3 12) (
                          gd (inb x2 12) (
                            if (gI σ 1 0 x3.toNatClampNeg) = (gI σ 1 0 x2.toNatClampNeg) then (
                              gd (inb x3 12) (
                                gd (inb x2 12) (
                                  if (gI σ 9 0 x2.toNatClampNeg) ≤ (gI σ 9 0 x3.toNatClampNeg) then (
                                    F_M_head_4 n σ x1 x2 (x3 + 1)
                                  ) else (
                                    F_M_head_4 n σ x1 x3 (x3 + 1)
                                  )
                                )
                              )
                            ) else (
                              F_M_head_4 n σ x1 x2 (x3 + 1)
                            )
                          )
                        )
                      )
                    )
                  )
                )
              ) else (
                F_M_head_4 n σ x1 x2 (x3 + 1)
              )
            )
          )
        ) else (
          F_M_head_4 n σ x1 x2 (x3 + 1)
        )
      )
    )
def F_M_head (σ : kS) (x1 : Int32) : Option (Int32) :=
  bd (F_M_head_4 1000 σ x1 (-1) 0) (fun ex1 =>
    some ex1.1
  )
def F_M_rest (σ : kS) (x1 : Int32) : Option (Int32) :=
  gd (inb x1 4) (
    bd (F_M_seized σ x1) (fun r2 =>
      some ((gI σ 15 0 x1.toNatClampNeg) - r2)
    )
  )
def F_M_enter (σ : kS) (x1 : Int32) (x2 : Int32) (x3 : Int64) : Option (kS) :=
  gd (inb x1 12) (
    lx (sI σ 6 0 x1.toNatClampNeg x2) (fun σ2 =>
      gd (inb x1 12) (
        lx (sL σ2 7 0 x1.toNatClampNeg x3) (fun σ4 =>
          gd (inb x1 12) (
            lx (sI σ4 8 0 x1.toNatClampNeg (gI σ4 31 0 0)) (fun σ6 =>
              lx (sI σ6 31 0 0 ((gI σ6 31 0 0) + 1)) (fun σ7 =>
                some σ7
              )
            )
          )
        )
      )
    )
  )
def F_M_serve_2 : Nat → kS → Int32 → Int32 → Option (Nat × kS × Int32)
  | 0, _, _, _ => none
  | n + 1, σ, x1, x2 =>
    if 12 ≤ x2 then (
      some (1, σ, x2)
    ) else (
      bd (F_M_head σ x1) (fun r1 =>
        if r1 < 0 then (
          some (0, σ, x2)
        ) else (
          bd (F_M_done σ r1) (fun r2 =>
            gd (inb r2 120) (
              bd (F_M_rest σ x1) (fun r4 =>
                if (gI σ 13 0 r2.toNatClampNeg) ≤ r4 then (
                  gd (inb ((4 * r1) + x1) 48) (
                    bd (F_M_done σ r1) (fun r6 =>
                      gd (inb r6 120) (
                        gd (inb ((4 * r1) + x1) 48) (
                          lx (sI σ 14 0 ((4 * r1) + x1).toNatClampNeg ((gI σ 14 0 ((4 * r1) + x1).toNatClampNeg) + (gI σ 13 0 r6.toNatClampNeg))) (fun σ9 =>
                            gd (inb x1 4) (
                              gd (inb r1 12) (
                                gd (inb x1 4) (
                                  lx (sL σ9 18 0 x1.toNatClampNeg ((gL σ9 18 0 x1.toNatClampNeg) + ((gL σ9 0 0 0) - (gL σ9 10 0 r1.toNatClampNeg)))) (fun σ13 =>
                                    bd (F_M_enter σ13 r1 1 (gL σ13 0 0 0)) (fun r14 =>
                                      F_M_serve_2 n r14 x1 (x2 + 1)
                                    )
                                  )
                                )
                              )
                            )
                          )
                        )
                      )
                    )
                  )
                ) else (
                  some (0, σ, x2)
                )
              )
            )
          )
        )
      )
    )
def F_M_serve (σ : kS) (x1 : Int32) : Option (kS) :=
  bd (F_M_serve_2 1000 σ x1 0) (fun ex1 =>
    if ex1.1 = 0 then (
      some ex1.2.1
    ) else (
      some ex1.2.1
    )
  )
def F_M_resource (σ : kS) (x1 : Int32) (x2 : Int32) (x3 : Int32) : Option (Int32 × kS) :=
  bd (F_M_within σ x1 0 3) (fun r1 =>
    if r1 = 0 then (
      some (0, σ)
    ) else (
      bd (F_M_within σ x2 0 9) (fun r2 =>
        if r2 = 0 then (
          some (0, σ)
        ) else (
          bd (F_M_seized σ x1) (fun r3 =>
            if r3 ≤ x2 then (
              gd (inb x1 4) (
                lx (sI σ 15 0 x1.toNatClampNeg x2) (fun σ5 =>
                  gd (inb x1 4) (
                    gd (bz x3) (
                      lx (sI σ5 16 0 x1.toNatClampNeg x3) (fun σ8 =>
                        bd (F_M_serve σ8 x1) (fun r9 =>
                          some (1, r9)
                        )
                      )
                    )
                  )
                )
              )
            ) else (
              some (0, σ)
            )
          )
        )
      )
    )
  )
def F_M_tank (σ : kS) (x1 : Int32) (x2 : Int32) (x3 : Int32) : Option (Int32 × kS) :=
  bd (F_M_within σ x1 0 3) (fun r1 =>
    if r1 = 0 then (
      some (0, σ)
    ) else (
      bd (F_M_within σ x2 0 1000) (fun r2 =>
        if r2 = 0 then (
          some (0, σ)
        ) else (
          bd (F_M_within σ x3 0 x2) (fun r3 =>
            if r3 = 0 then (
              some (0, σ)
            ) else (
              gd (inb x1 4) (
                lx (sI σ 19 0 x1.toNatClampNeg x2) (fun σ5 =>
                  gd (inb x1 4) (
                    lx (sI σ5 20 0 x1.toNatClampNeg x3) (fun σ7 =>
                      some (1, σ7)
                    )
                  )
                )
              )
            )
          )
        )
      )
    )
  )
def F_M_sooner (σ : kS) (x1 : Int32) (x2 : Int32) : Option (Int32) :=
  gd (inb x1 12) (
    gd (inb x2 12) (
      if (lg_cmp (gL σ 7 0 x1.toNatClampNeg) (gL σ 7 0 x2.toNatClampNeg)) = 0 then (
        gd (inb x1 12) (
          gd (inb x2 12) (
            if (gI σ 1 0 x1.toNatClampNeg) = (gI σ 1 0 x2.toNatClampNeg) then (
              gd (inb x1 12) (
                gd (inb x2 12) (
                  if (gI σ 8 0 x2.toNatClampNeg) ≤ (gI σ 8 0 x1.toNatClampNeg) then (
                    some 0
                  ) else (
                    some 1
                  )
                )
              )
            ) else (
              gd (inb x1 12) (
                gd (inb x2 12) (
                  if (gI σ 1 0 x2.toNatClampNeg) ≤ (gI σ 1 0 x1.toNatClampNeg) then (
                    some 0
                  ) else (
                    some 1
                  )
                )
              )
            )
          )
        )
      ) else (
        gd (inb x1 12) (
          gd (inb x2 12) (
            if 0 ≤ (lg_cmp (gL σ 7 0 x1.toNatClampNeg) (gL σ 7 0 x2.toNatClampNeg)) then (
              some 0
            ) else (
              some 1
            )
          )
        )
      )
    )
  )
def F_M_first_4 : Nat → kS → Int32 → Int32 → Option (Int32 × Int32)
  | 0, _, _, _ => none
  | n + 1, σ, x1, x2 =>
    if (gI σ 30 0 0) ≤ x2 then (
      some (x1, x2)
    ) else (
      gd (inb x2 12) (
        if (gI σ 8 0 x2.toNatClampNeg) < 0 then (
          F_M_first_4 n σ x1 (x2 + 1)
        ) else (
          if x1 < 0 then (
            F_M_first_4 n σ x2 (x2 + 1)
          ) else (
            bd (F_M_sooner σ x2 x1) (fun r2 =>
              if r2 = 0 then (
                F_M_first_4 n σ x1 (x2 + 1)
              ) else (
                F_M_first_4 n σ x2 (x2 + 1)
              )
            )
          )
        )
      )
    )
def F_M_first (σ : kS) : Option (Int32) :=
  bd (F_M_first_4 1000 σ (-1) 0) (fun ex1 =>
    some ex1.1
  )
def F_M_reach_9 : Nat → kS → Int32 → Int32 → Int32 → Int32 → Option (Int32 × Int32)
  | 0, _, _, _, _, _ => none
  | n + 1, σ, x1, x2, x3, x4 =>
    if (gI σ 30 0 0) ≤ x4 then (
      some (x3, x4)
    ) else (
      gd (inb x4 12) (
        gd (inb x1 12) (
          if (gI σ 1 0 x4.toNatClampNeg) ≤ (gI σ 1 0 x1.toNatClampNeg) then (
            lx (x3 + 0 : Int32) (fun v3 =>
              F_M_reach_9 n σ x1 x2 v3 (x4 + 1)
            )
          ) else (
            gd (inb ((4 * x4) + x2) 48) (
              lx (x3 + (gI σ 14 0 ((4 * x4) + x2).toNatClampNeg) : Int32) (fun v5 =>
                F_M_reach_9 n σ x1 x2 v5 (x4 + 1)
              )
            )
          )
        )
      )
    )
def F_M_reach (σ : kS) (x1 : Int32) (x2 : Int32) : Option (Int32) :=
  bd (F_M_rest σ x2) (fun r1 =>
    bd (F_M_reach_9 1000 σ x1 x2 r1 0) (fun ex2 =>
      some ex2.1
    )
  )
def F_M_victim_5 : Nat → kS → Int32 → Int32 → Int32 → Int32 → Option (Int32 × Int32)
  | 0, _, _, _, _, _ => none
  | n + 1, σ, x1, x2, x3, x4 =>
    if (gI σ 30 0 0) ≤ x4 then (
      some (x3, x4)
    ) else (
      gd (inb x4 12) (
        gd (inb x1 12) (
          if (gI σ 1 0 x4.toNatClampNeg) ≤ (gI σ 1 0 x1.toNatClampNeg) then (
            F_M_victim_5 n σ x1 x2 x3 (x4 + 1)
          ) else (
            gd (inb ((4 * x4) + x2) 48) (
              if (gI σ 14 0 ((4 * x4) + x2).toNatClampNeg) ≤ 0 then (
                F_M_victim_5 n σ x1 x2 x3 (x4 + 1)
              ) else (
                if x3 < 0 then (
                  F_M_victim_5 n σ x1 x2 x4 (x4 + 1)
                ) else (
                  gd (inb x4 12) (
                    gd (inb x3 12) (
                      if (gI σ 1 0 x4.toNatClampNeg) < (gI σ 1 0 x3.toNatClampNeg) then (
                        F_M_victim_5 n σ x1 x2 x3 (x4 + 1)
                      ) else (
                        F_M_victim_5 n σ x1 x2 x4 (x4 + 1)
                      )
                    )
                  )
                )
              )
            )
          )
        )
      )
    )
def F_M_victim (σ : kS) (x1 : Int32) (x2 : Int32) : Option (Int32) :=
  bd (F_M_victim_5 1000 σ x1 x2 (-1) 0) (fun ex1 =>
    some ex1.1
  )
def F_M_interrupt (σ : kS) (x1 : Int32) : Option (Int32 × kS) :=
  bd (F_M_none σ x1) (fun r1 =>
    if r1 = 0 then (
      gd (inb x1 12) (
        if (gI σ 6 0 x1.toNatClampNeg) < 2 then (
          some (0, σ)
        ) else (
          gd (inb x1 12) (
            if (gI σ 6 0 x1.toNatClampNeg) ≤ 5 then (
              gd (inb x1 12) (
                if (gI σ 6 0 x1.toNatClampNeg) = 4 then (
                  bd (F_M_done σ x1) (fun r9 =>
                    gd (inb r9 120) (
                      lx (gI σ 12 0 r9.toNatClampNeg : Int32) (fun v11 =>
                        gd (inb x1 12) (
                          gd (inb x1 12) (
                            lx (sI σ 5 0 x1.toNatClampNeg (gI σ 3 0 x1.toNatClampNeg)) (fun σ14 =>
                              bd (F_M_enter σ14 x1 1 (gL σ14 0 0 0)) (fun r15 =>
                                if v11 < 0 then (
                                  some (1, r15)
                                ) else (
                                  bd (F_M_serve r15 v11) (fun r16 =>
                                    some (1, r16)
                                  )
                                )
                              )
                            )
                          )
                        )
                      )
                    )
                  )
                ) else (
                  gd (inb x1 12) (
                    gd (inb x1 12) (
                      lx (sI σ 5 0 x1.toNatClampNeg (gI σ 3 0 x1.toNatClampNeg)) (fun σ7 =>
                        bd (F_M_enter σ7 x1 1 (gL σ7 0 0 0)) (fun r8 =>
                          some (1, r8)
                        )
                      )
                    )
                  )
                )
              )
            ) else (
              some (0, σ)
            )
          )
        )
      )
    ) else (
      some (0, σ)
    )
  )
def F_M_preempt_6 : Nat → kS → Int32 → Int32 → Int32 → Int32 → Int32 → Option (kS × Int32 × Int32)
  | 0, _, _, _, _, _, _ => none
  | n + 1, σ, x1, x2, x3, x4, x5 =>
    if 12 ≤ x5 then (
      some (σ, x4, x5)
    ) else (
      bd (F_M_rest σ x2) (fun r1 =>
        if x3 ≤ r1 then (
          some (σ, x4, x5)
        ) else (
          bd (F_M_victim σ x1 x2) (fun r2 =>
            if r2 < 0 then (
              F_M_preempt_6 n σ x1 x2 x3 x4 (x5 + 1)
            ) else (
              gd (inb ((4 * r2) + x2) 48) (
                lx (sI σ 14 0 ((4 * r2) + x2).toNatClampNeg 0) (fun σ4 =>
                  gd (inb x4 12) (
                    lx (sI σ4 21 0 x4.toNatClampNeg r2) (fun σ6 =>
                      F_M_preempt_6 n σ6 x1 x2 x3 (x4 + 1) (x5 + 1)
                    )
                  )
                )
              )
            )
          )
        )
      )
    )
def F_M_preempt_82 : Nat → kS → Int32 → Int32 → Int32 → Option (kS × Int32)
  | 0, _, _, _, _ => none
  | n + 1, σ, x2, x4, x5 =>
    if x4 ≤ x5 then (
      some (σ, x5)
    ) else (
      gd (inb x5 12) (
        bd (F_M_interrupt σ (gI σ 21 0 x5.toNatClampNeg)) (fun r2 =>
          F_M_preempt_82 n r2.2 x2 x4 (x5 + 1)
        )
      )
    )
def F_M_preempt (σ : kS) (x1 : Int32) (x2 : Int32) (x3 : Int32) : Option (kS) :=
  bd (F_M_preempt_6 1000 σ x1 x2 x3 0 0) (fun ex1 =>
    gd (inb ((4 * x1) + x2) 48) (
      gd (inb ((4 * x1) + x2) 48) (
        lx (sI ex1.1 14 0 ((4 * x1) + x2).toNatClampNeg ((gI ex1.1 14 0 ((4 * x1) + x2).toNatClampNeg) + x3)) (fun σ4 =>
          bd (F_M_preempt_82 1000 σ4 x2 ex1.2.1 0) (fun ex5 =>
            bd (F_M_serve ex5.1 x2) (fun r6 =>
              some r6
            )
          )
        )
      )
    )
  )
def F_M_seize (σ : kS) (x1 : Int32) (x2 : Int32) (x3 : Int32) : Option (Int32 × kS) :=
  bd (F_M_head σ x2) (fun r1 =>
    if r1 < 0 then (
      bd (F_M_rest σ x2) (fun r2 =>
        if r2 < x3 then (
          gd (inb x2 4) (
            if (gI σ 16 0 x2.toNatClampNeg) = 0 then (
              gd (inb x1 12) (
                lx (sI σ 6 0 x1.toNatClampNeg 4) (fun σ5 =>
                  gd (inb x1 12) (
                    lx (sI σ5 9 0 x1.toNatClampNeg (gI σ5 32 0 0)) (fun σ7 =>
                      lx (sI σ7 32 0 0 ((gI σ7 32 0 0) + 1)) (fun σ8 =>
                        gd (inb x1 12) (
                          lx (sL σ8 10 0 x1.toNatClampNeg (gL σ8 0 0 0)) (fun σ10 =>
                            some (0, σ10)
                          )
                        )
                      )
                    )
                  )
                )
              )
            ) else (
              bd (F_M_reach σ x1 x2) (fun r11 =>
                if r11 < x3 then (
                  gd (inb x1 12) (
                    lx (sI σ 6 0 x1.toNatClampNeg 4) (fun σ13 =>
                      gd (inb x1 12) (
                        lx (sI σ13 9 0 x1.toNatClampNeg (gI σ13 32 0 0)) (fun σ15 =>
                          lx (sI σ15 32 0 0 ((gI σ15 32 0 0) + 1)) (fun σ16 =>
                            gd (inb x1 12) (
                              lx (sL σ16 10 0 x1.toNatClampNeg (gL σ16 0 0 0)) (fun σ18 =>
                                some (0, σ18)
                              )
                            )
                          )
                        )
                      )
                    )
                  )
                ) else (
                  bd (F_M_preempt σ x1 x2 x3) (fun r19 =>
                    some (1, r19)
                  )
                )
              )
            )
          )
        ) else (
          gd (inb ((4 * x1) + x2) 48) (
            gd (inb ((4 * x1) + x2) 48) (
              lx (sI σ 14 0 ((4 * x1) + x2).toNatClampNeg ((gI σ 14 0 ((4 * x1) + x2).toNatClampNeg) + x3)) (fun σ22 =>
                some (1, σ22)
              )
            )
          )
        )
      )
    ) else (
      gd (inb r1 12) (
        gd (inb x1 12) (
          if (gI σ 1 0 r1.toNatClampNeg) ≤ (gI σ 1 0 x1.toNatClampNeg) then (
            gd (inb x1 12) (
              lx (sI σ 6 0 x1.toNatClampNeg 4) (fun σ26 =>
                gd (inb x1 12) (
                  lx (sI σ26 9 0 x1.toNatClampNeg (gI σ26 32 0 0)) (fun σ28 =>
                    lx (sI σ28 32 0 0 ((gI σ28 32 0 0) + 1)) (fun σ29 =>
                      gd (inb x1 12) (
                        lx (sL σ29 10 0 x1.toNatClampNeg (gL σ29 0 0 0)) (fun σ31 =>
                          some (0, σ31)
                        )
                      )
                    )
                  )
                )
              )
            )
          ) else (
            bd (F_M_rest σ x2) (fun r32 =>
              if r32 < x3 then (
                gd (inb x2 4) (
                  if (gI σ 16 0 x2.toNatClampNeg) = 0 then (
                    gd (inb x1 12) (
                      lx (sI σ 6 0 x1.toNatClampNeg 4) (fun σ35 =>
                        gd (inb x1 12) (
                          lx (sI σ35 9 0 x1.toNatClampNeg (gI σ35 32 0 0)) (fun σ37 =>
                            lx (sI σ37 32 0 0 ((gI σ37 32 0 0) + 1)) (fun σ38 =>
                              gd (inb x1 12) (
                                lx (sL σ38 10 0 x1.toNatClampNeg (gL σ38 0 0 0)) (fun σ40 =>
                                  some (0, σ40)
                                )
                              )
                            )
                          )
                        )
                      )
                    )
                  ) else (
                    bd (F_M_reach σ x1 x2) (fun r41 =>
                      if r41 < x3 then (
                        gd (inb x1 12) (
                          lx (sI σ 6 0 x1.toNatClampNeg 4) (fun σ43 =>
                            gd (inb x1 12) (
                              lx (sI σ43 9 0 x1.toNatClampNeg (gI σ43 32 0 0)) (fun σ45 =>
                                lx (sI σ45 32 0 0 ((gI σ45 32 0 0) + 1)) (fun σ46 =>
                                  gd (inb x1 12) (
                                    lx (sL σ46 10 0 x1.toNatClampNeg (gL σ46 0 0 0)) (fun σ48 =>
                                      some (0, σ48)
                                    )
                                  )
                                )
                              )
                            )
                          )
                        )
                      ) else (
                        bd (F_M_preempt σ x1 x2 x3) (fun r49 =>
                          some (1, r49)
                        )
                      )
                    )
                  )
                )
              ) else (
                gd (inb ((4 * x1) + x2) 48) (
                  gd (inb ((4 * x1) + x2) 48) (
                    lx (sI σ 14 0 ((4 * x1) + x2).toNatClampNeg ((gI σ 14 0 ((4 * x1) + x2).toNatClampNeg) + x3)) (fun σ52 =>
                      some (1, σ52)
                    )
                  )
                )
              )
            )
          )
        )
      )
    )
  )
def F_M_release (σ : kS) (x1 : Int32) (x2 : Int32) (x3 : Int32) : Option (kS) :=
  lx ((4 * x1) + x2 : Int32) (fun v1 =>
    gd (inb v1 48) (
      if (gI σ 14 0 v1.toNatClampNeg) ≤ x3 then (
        gd (inb v1 48) (
          lx (sI σ 14 0 v1.toNatClampNeg 0) (fun σ4 =>
            bd (F_M_serve σ4 x2) (fun r5 =>
              some r5
            )
          )
        )
      ) else (
        gd (inb v1 48) (
          gd (inb v1 48) (
            lx (sI σ 14 0 v1.toNatClampNeg ((gI σ 14 0 v1.toNatClampNeg) - x3)) (fun σ8 =>
              bd (F_M_serve σ8 x2) (fun r9 =>
                some r9
              )
            )
          )
        )
      )
    )
  )
def F_M_holds (σ : kS) (x1 : Int32) : Option (Int32) :=
  gd (inb x1 120) (
    lx (gI σ 12 0 x1.toNatClampNeg : Int32) (fun v2 =>
      gd (inb x1 120) (
        if (gI σ 11 0 x1.toNatClampNeg) = 4 then (
          gd (inb v2 4) (
            gd (inb x1 120) (
              gd (inb v2 4) (
                if (gI σ 19 0 v2.toNatClampNeg) < ((gI σ 20 0 v2.toNatClampNeg) + (gI σ 13 0 x1.toNatClampNeg)) then (
                  some 0
                ) else (
                  some 1
                )
              )
            )
          )
        ) else (
          gd (inb x1 120) (
            if (gI σ 11 0 x1.toNatClampNeg) = 5 then (
              gd (inb v2 4) (
                gd (inb x1 120) (
                  if (gI σ 20 0 v2.toNatClampNeg) < (gI σ 13 0 x1.toNatClampNeg) then (
                    some 0
                  ) else (
                    some 1
                  )
                )
              )
            ) else (
              if (gI σ 30 0 0) ≤ v2 then (
                some 1
              ) else (
                gd (inb v2 12) (
                  if (gI σ 6 0 v2.toNatClampNeg) < 6 then (
                    some 0
                  ) else (
                    some 1
                  )
                )
              )
            )
          )
        )
      )
    )
  )
def F_M_pour (σ : kS) (x1 : Int32) : Option (kS) :=
  gd (inb x1 120) (
    if 6 ≤ (gI σ 11 0 x1.toNatClampNeg) then (
      some σ
    ) else (
      gd (inb x1 120) (
        gd (inb (gI σ 12 0 x1.toNatClampNeg) 4) (
          gd (inb x1 120) (
            if (gI σ 11 0 x1.toNatClampNeg) = 4 then (
              gd (inb x1 120) (
                gd (inb (gI σ 12 0 x1.toNatClampNeg) 4) (
                  lx (sI σ 20 0 (gI σ 12 0 x1.toNatClampNeg).toNatClampNeg ((gI σ 20 0 (gI σ 12 0 x1.toNatClampNeg).toNatClampNeg) + (gI σ 13 0 x1.toNatClampNeg))) (fun σ10 =>
                    some σ10
                  )
                )
              )
            ) else (
              gd (inb x1 120) (
                gd (inb (gI σ 12 0 x1.toNatClampNeg) 4) (
                  lx (sI σ 20 0 (gI σ 12 0 x1.toNatClampNeg).toNatClampNeg ((gI σ 20 0 (gI σ 12 0 x1.toNatClampNeg).toNatClampNeg) + (-(gI σ 13 0 x1.toNatClampNeg)))) (fun σ7 =>
                    some σ7
                  )
                )
              )
            )
          )
        )
      )
    )
  )
def F_M_goOver_15 : Nat → kS → Int32 → Int32 → Int32 → Int32 → Option (Int32 × Int32)
  | 0, _, _, _, _, _ => none
  | n + 1, σ, x1, x2, x3, x4 =>
    if (gI σ 30 0 0) ≤ x4 then (
      some (x3, x4)
    ) else (
      gd (inb x4 12) (
        if (gI σ 6 0 x4.toNatClampNeg) = 5 then (
          gd (inb x4 12) (
            if (gI σ 9 0 x4.toNatClampNeg) ≤ x1 then (
              F_M_goOver_15 n σ x1 x2 x3 (x4 + 1)
            ) else (
              if x3 < 0 then (
                F_M_goOver_15 n σ x1 x2 x4 (x4 + 1)
              ) else (
                gd (inb x4 12) (
                  gd (inb x3 12) (
                    if (gI σ 9 0 x3.toNatClampNeg) ≤ (gI σ 9 0 x4.toNatClampNeg) then (
                      F_M_goOver_15 n σ x1 x2 x3 (x4 + 1)
                    ) else (
                      F_M_goOver_15 n σ x1 x2 x4 (x4 + 1)
                    )
                  )
                )
              )
            )
          )
        ) else (
          F_M_goOver_15 n σ x1 x2 x3 (x4 + 1)
        )
      )
    )
def F_M_goOver_4 : Nat → kS → Int32 → Int32 → Option (Nat × kS × Int32 × Int32)
  | 0, _, _, _ => none
  | n + 1, σ, x1, x2 =>
    if 12 ≤ x2 then (
      some (1, σ, x1, x2)
    ) else (
      bd (F_M_goOver_15 1000 σ x1 x2 (-1) 0) (fun ex1 =>
        if 0 ≤ ex1.1 then (
          gd (inb ex1.1 12) (
            lx (gI σ 9 0 ex1.1.toNatClampNeg : Int32) (fun v3 =>
              bd (F_M_done σ ex1.1) (fun r4 =>
                bd (F_M_holds σ r4) (fun r5 =>
                  if r5 = 0 then (
                    F_M_goOver_4 n σ v3 (x2 + 1)
                  ) else (
                    bd (F_M_done σ ex1.1) (fun r6 =>
                      bd (F_M_pour σ r6) (fun r7 =>
                        bd (F_M_enter r7 ex1.1 1 (gL r7 0 0 0)) (fun r8 =>
                          F_M_goOver_4 n r8 v3 (x2 + 1)
                        )
                      )
                    )
                  )
                )
              )
            )
          )
        ) else (
          some (0, σ, x1, x2)
        )
      )
    )
def F_M_goOver (σ : kS) : Option (kS) :=
  bd (F_M_goOver_4 1000 σ (-1) 0) (fun ex1 =>
    if ex1.1 = 0 then (
      some ex1.2.1
    ) else (
      some ex1.2.1
    )
  )
def F_M_activate (σ : kS) (x1 : Int32) (x2 : Int32) : Option (Int32 × kS) :=
  bd (F_M_none σ x1) (fun r1 =>
    if r1 = 0 then (
      gd (inb x1 12) (
        if (gI σ 6 0 x1.toNatClampNeg) = 0 then (
          bd (F_M_within σ x2 0 1000000) (fun r3 =>
            if r3 = 0 then (
              some (0, σ)
            ) else (
              bd (F_M_enter σ x1 1 ((gL σ 0 0 0) + x2.toInt64)) (fun r4 =>
                some (1, r4)
              )
            )
          )
        ) else (
          gd (inb x1 12) (
            if (gI σ 6 0 x1.toNatClampNeg) = 3 then (
              bd (F_M_within σ x2 0 1000000) (fun r6 =>
                if r6 = 0 then (
                  some (0, σ)
                ) else (
                  bd (F_M_enter σ x1 1 ((gL σ 0 0 0) + x2.toInt64)) (fun r7 =>
                    some (1, r7)
                  )
                )
              )
            ) else (
              some (0, σ)
            )
          )
        )
      )
    ) else (
      some (0, σ)
    )
  )
def F_M_kill_68 : Nat → kS → Int32 → Int32 → Int32 → Option (kS × Int32)
  | 0, _, _, _, _ => none
  | n + 1, σ, x1, x2, x3 =>
    gd (inb x1 12) (
      if (gI σ 4 0 x1.toNatClampNeg) ≤ x3 then (
        some (σ, x3)
      ) else (
        gd (inb ((10 * x1) + x3) 120) (
          if (gI σ 11 0 ((10 * x1) + x3).toNatClampNeg) = 3 then (
            gd (inb ((10 * x1) + x3) 120) (
              gd (inb ((10 * x1) + x3) 120) (
                bd (F_M_release σ x1 (gI σ 12 0 ((10 * x1) + x3).toNatClampNeg) (gI σ 13 0 ((10 * x1) + x3).toNatClampNeg)) (fun r5 =>
                  F_M_kill_68 n r5 x1 x2 (x3 + 1)
                )
              )
            )
          ) else (
            F_M_kill_68 n σ x1 x2 (x3 + 1)
          )
        )
      )
    )
def F_M_kill (σ : kS) (x1 : Int32) : Option (Int32 × kS) :=
  bd (F_M_none σ x1) (fun r1 =>
    if r1 = 0 then (
      gd (inb x1 12) (
        if (gI σ 6 0 x1.toNatClampNeg) < 6 then (
          gd (inb x1 12) (
            if (gI σ 6 0 x1.toNatClampNeg) = 4 then (
              bd (F_M_done σ x1) (fun r11 =>
                gd (inb r11 120) (
                  lx (gI σ 12 0 r11.toNatClampNeg : Int32) (fun v13 =>
                    gd (inb x1 12) (
                      lx (sI σ 8 0 x1.toNatClampNeg (-1)) (fun σ15 =>
                        gd (inb x1 12) (
                          lx (sI σ15 6 0 x1.toNatClampNeg 7) (fun σ17 =>
                            gd (inb x1 12) (
                              lx (gI σ17 5 0 x1.toNatClampNeg : Int32) (fun v19 =>
                                bd (F_M_kill_68 1000 σ17 x1 v13 v19) (fun ex20 =>
                                  if v13 < 0 then (
                                    some (1, ex20.1)
                                  ) else (
                                    bd (F_M_serve ex20.1 v13) (fun r21 =>
                                      some (1, r21)
                                    )
                                  )
                                )
                              )
                            )
                          )
                        )
                      )
                    )
                  )
                )
              )
            ) else (
              gd (inb x1 12) (
                lx (sI σ 8 0 x1.toNatClampNeg (-1)) (fun σ5 =>
                  gd (inb x1 12) (
                    lx (sI σ5 6 0 x1.toNatClampNeg 7) (fun σ7 =>
                      gd (inb x1 12) (
                        lx (gI σ7 5 0 x1.toNatClampNeg : Int32) (fun v9 =>
                          bd (F_M_kill_68 1000 σ7 x1 (-1) v9) (fun ex10 =>
                            some (1, ex10.1)
                          )
                        )
                      )
                    )
                  )
                )
              )
            )
          )
        ) else (
          some (0, σ)
        )
      )
    ) else (
      some (0, σ)
    )
  )
def F_M_perform (σ : kS) (x1 : Int32) (x2 : Int32) : Option (Int32 × kS) :=
  gd (inb x2 120) (
    lx (gI σ 12 0 x2.toNatClampNeg : Int32) (fun v2 =>
      gd (inb x2 120) (
        if (gI σ 11 0 x2.toNatClampNeg) = 0 then (
          bd (F_M_enter σ x1 2 ((gL σ 0 0 0) + v2.toInt64)) (fun r4 =>
            some (0, r4)
          )
        ) else (
          if (gI σ 11 0 x2.toNatClampNeg) = 1 then (
            gd (inb x1 12) (
              lx (sI σ 6 0 x1.toNatClampNeg 3) (fun σ6 =>
                some (0, σ6)
              )
            )
          ) else (
            if (gI σ 11 0 x2.toNatClampNeg) = 2 then (
              gd (inb x2 120) (
                bd (F_M_seize σ x1 v2 (gI σ 13 0 x2.toNatClampNeg)) (fun r8 =>
                  gd (bz r8.1) (
                    some (r8.1, r8.2)
                  )
                )
              )
            ) else (
              if (gI σ 11 0 x2.toNatClampNeg) = 3 then (
                gd (inb x2 120) (
                  bd (F_M_release σ x1 v2 (gI σ 13 0 x2.toNatClampNeg)) (fun r11 =>
                    some (1, r11)
                  )
                )
              ) else (
                if (gI σ 11 0 x2.toNatClampNeg) = 4 then (
                  bd (F_M_holds σ x2) (fun r12 =>
                    if r12 = 0 then (
                      gd (inb x1 12) (
                        lx (sI σ 6 0 x1.toNatClampNeg 5) (fun σ14 =>
                          gd (inb x1 12) (
                            lx (sI σ14 9 0 x1.toNatClampNeg (gI σ14 32 0 0)) (fun σ16 =>
                              lx (sI σ16 32 0 0 ((gI σ16 32 0 0) + 1)) (fun σ17 =>
                                some (0, σ17)
                              )
                            )
                          )
                        )
                      )
                    ) else (
                      bd (F_M_pour σ x2) (fun r18 =>
                        some (1, r18)
                      )
                    )
                  )
                ) else (
                  if (gI σ 11 0 x2.toNatClampNeg) = 5 then (
                    bd (F_M_holds σ x2) (fun r19 =>
                      if r19 = 0 then (
                        gd (inb x1 12) (
                          lx (sI σ 6 0 x1.toNatClampNeg 5) (fun σ21 =>
                            gd (inb x1 12) (
                              lx (sI σ21 9 0 x1.toNatClampNeg (gI σ21 32 0 0)) (fun σ23 =>
                                lx (sI σ23 32 0 0 ((gI σ23 32 0 0) + 1)) (fun σ24 =>
                                  some (0, σ24)
                                )
                              )
                            )
                          )
                        )
                      ) else (
                        bd (F_M_pour σ x2) (fun r25 =>
                          some (1, r25)
                        )
                      )
                    )
                  ) else (
                    if (gI σ 11 0 x2.toNatClampNeg) = 6 then (
                      bd (F_M_holds σ x2) (fun r26 =>
                        if r26 = 0 then (
                          gd (inb x1 12) (
                            lx (sI σ 6 0 x1.toNatClampNeg 5) (fun σ28 =>
                              gd (inb x1 12) (
                                lx (sI σ28 9 0 x1.toNatClampNeg (gI σ28 32 0 0)) (fun σ30 =>
                                  lx (sI σ30 32 0 0 ((gI σ30 32 0 0) + 1)) (fun σ31 =>
                                    some (0, σ31)
                                  )
                                )
                              )
                            )
                          )
                        ) else (
                          bd (F_M_pour σ x2) (fun r32 =>
                            some (1, r32)
                          )
                        )
                      )
                    ) else (
                      if (gI σ 11 0 x2.toNatClampNeg) = 7 then (
                        bd (F_M_activate σ v2 0) (fun r33 =>
                          some (1, r33.2)
                        )
                      ) else (
                        if (gI σ 11 0 x2.toNatClampNeg) = 8 then (
                          bd (F_M_interrupt σ v2) (fun r34 =>
                            some (1, r34.2)
                          )
                        ) else (
                          if (gI σ 11 0 x2.toNatClampNeg) = 9 then (
                            bd (F_M_kill σ v2) (fun r35 =>
                              gd (inb x1 12) (
                                if (gI r35.2 6 0 x1.toNatClampNeg) = 7 then (
                                  some (0, r35.2)
                                ) else (
                                  some (1, r35.2)
                                )
                              )
                            )
                          ) else (
                            bd (F_M_holds σ x2) (fun r37 =>
                              if r37 = 0 then (
                                gd (inb x1 12) (
                                  lx (sI σ 6 0 x1.toNatClampNeg 5) (fun σ39 =>
                                    gd (inb x1 12) (
                                      lx (sI σ39 9 0 x1.toNatClampNeg (gI σ39 32 0 0)) (fun σ41 =>
                                        lx (sI σ41 32 0 0 ((gI σ41 32 0 0) + 1)) (fun σ42 =>
                                          some (0, σ42)
                                        )
                                      )
                                    )
                                  )
                                )
                              ) else (
                                bd (F_M_pour σ x2) (fun r43 =>
                                  some (1, r43)
                                )
                              )
                            )
                          )
                        )
                      )
                    )
                  )
                )
              )
            )
          )
        )
      )
    )
  )
def F_M_turn_2 : Nat → kS → Int32 → Int32 → Option (Nat × kS × Int32)
  | 0, _, _, _ => none
  | n + 1, σ, x1, x2 =>
    if 200 ≤ x2 then (
      some (2, σ, x2)
    ) else (
      gd (inb x1 12) (
        gd (inb x1 12) (
          if (gI σ 4 0 x1.toNatClampNeg) ≤ (gI σ 5 0 x1.toNatClampNeg) then (
            gd (inb x1 12) (
              gd (inb x1 12) (
                lx (sI σ 2 0 x1.toNatClampNeg ((gI σ 2 0 x1.toNatClampNeg) - 1)) (fun σ5 =>
                  gd (inb x1 12) (
                    if (gI σ5 2 0 x1.toNatClampNeg) = 0 then (
                      some (1, σ5, x2)
                    ) else (
                      gd (inb x1 12) (
                        lx (sI σ5 5 0 x1.toNatClampNeg 0) (fun σ8 =>
                          F_M_turn_2 n σ8 x1 (x2 + 1)
                        )
                      )
                    )
                  )
                )
              )
            )
          ) else (
            gd (inb x1 12) (
              gd (inb x1 12) (
                lx (sI σ 5 0 x1.toNatClampNeg ((gI σ 5 0 x1.toNatClampNeg) + 1)) (fun σ11 =>
                  bd (F_M_done σ11 x1) (fun r12 =>
                    bd (F_M_perform σ11 x1 r12) (fun r13 =>
                      if r13.1 = 0 then (
                        some (0, r13.2, x2)
                      ) else (
                        F_M_turn_2 n r13.2 x1 (x2 + 1)
                      )
                    )
                  )
                )
              )
            )
          )
        )
      )
    )
def F_M_turn (σ : kS) (x1 : Int32) : Option (kS) :=
  bd (F_M_turn_2 1000 σ x1 0) (fun ex1 =>
    if ex1.1 = 0 then (
      some ex1.2.1
    ) else (
      if ex1.1 = 1 then (
        gd (inb x1 12) (
          lx (sI ex1.2.1 6 0 x1.toNatClampNeg 6) (fun σ3 =>
            some σ3
          )
        )
      ) else (
        some ex1.2.1
      )
    )
  )
def F_M_advance_2 : Nat → kS → Int64 → Int32 → Option (kS × Int32)
  | 0, _, _, _ => none
  | n + 1, σ, x1, x3 =>
    if 4 ≤ x3 then (
      some (σ, x3)
    ) else (
      gd (inb x3 4) (
        bd (F_M_seized σ x3) (fun r2 =>
          gd (inb x3 4) (
            lx (sL σ 17 0 x3.toNatClampNeg ((gL σ 17 0 x3.toNatClampNeg) + (r2.toInt64 * (x1 - (gL σ 0 0 0))))) (fun σ4 =>
              F_M_advance_2 n σ4 x1 (x3 + 1)
            )
          )
        )
      )
    )
def F_M_advance (σ : kS) (x1 : Int64) : Option (kS) :=
  bd (F_M_advance_2 1000 σ x1 0) (fun ex1 =>
    lx (sL ex1.1 0 0 0 x1) (fun σ2 =>
      some σ2
    )
  )
def F_M_event_13 : Nat → kS → Int32 → Int32 → Option (kS × Int32)
  | 0, _, _, _ => none
  | n + 1, σ, x1, x2 =>
    if x2 ≤ 0 then (
      some (σ, x2)
    ) else (
      gd (inb (x2 - 1) 64) (
        gd (inb x2 64) (
          lx (sI σ 22 0 x2.toNatClampNeg (gI σ 22 0 (x2 - 1).toNatClampNeg)) (fun σ3 =>
            F_M_event_13 n σ3 x1 (x2 + (-1))
          )
        )
      )
    )
def F_M_event (σ : kS) (x1 : Int32) : Option (kS) :=
  gd (inb x1 12) (
    bd (F_M_advance σ (gL σ 7 0 x1.toNatClampNeg)) (fun r2 =>
      bd (F_M_event_13 1000 r2 x1 63) (fun ex3 =>
        gd (inb x1 12) (
          gd (inb 0 64) (
            lx (sI ex3.1 22 0 (0 : Int32).toNatClampNeg (x1 + (16 * (gI ex3.1 5 0 x1.toNatClampNeg)))) (fun σ6 =>
              lx (sI σ6 33 0 0 ((gI σ6 33 0 0) + 1)) (fun σ7 =>
                gd (inb x1 12) (
                  lx (sI σ7 8 0 x1.toNatClampNeg (-1)) (fun σ9 =>
                    gd (inb x1 12) (
                      lx (sI σ9 6 0 x1.toNatClampNeg 1) (fun σ11 =>
                        bd (F_M_turn σ11 x1) (fun r12 =>
                          bd (F_M_goOver r12) (fun r13 =>
                            some r13
                          )
                        )
                      )
                    )
                  )
                )
              )
            )
          )
        )
      )
    )
  )
def F_M_run_38 : Nat → kS → Int32 → Int64 → Int32 → Int32 → Option (kS × Int32 × Int32)
  | 0, _, _, _, _, _ => none
  | n + 1, σ, x1, x2, x4, x5 =>
    if x1 ≤ x4 then (
      some (σ, x4, x5)
    ) else (
      if x5 < 0 then (
        some (σ, x4, x5)
      ) else (
        gd (inb x5 12) (
          if 0 < (lg_cmp (gL σ 7 0 x5.toNatClampNeg) x2) then (
            some (σ, x4, x5)
          ) else (
            bd (F_M_event σ x5) (fun r2 =>
              bd (F_M_first r2) (fun r3 =>
                F_M_run_38 n r2 x1 x2 (x4 + 1) r3
              )
            )
          )
        )
      )
    )
def F_M_run (σ : kS) (x1 : Int32) (x2 : Int64) : Option (Int32 × kS) :=
  if x1 < 0 then (
    some ((-1), σ)
  ) else (
    if 100 < x1 then (
      some ((-1), σ)
    ) else (
      if (lg_cmp x2 (gL σ 0 0 0)) < 0 then (
        some ((-1), σ)
      ) else (
        if (lg_cmp x2 1000000000000) ≤ 0 then (
          bd (F_M_first σ) (fun r1 =>
            bd (F_M_run_38 1000 σ x1 x2 0 r1) (fun ex2 =>
              if x1 ≤ ex2.2.1 then (
                some (ex2.2.1, ex2.1)
              ) else (
                bd (F_M_advance ex2.1 x2) (fun r3 =>
                  some (ex2.2.1, r3)
                )
              )
            )
          )
        ) else (
          some ((-1), σ)
        )
      )
    )
  )
def F_M_now (σ : kS) : Option (Int64) :=
  some (gL σ 0 0 0)
def F_M_next (σ : kS) : Option (Int64) :=
  bd (F_M_first σ) (fun r1 =>
    if 0 ≤ r1 then (
      gd (inb r1 12) (
        some (gL σ 7 0 r1.toNatClampNeg)
      )
    ) else (
      some (-1)
    )
  )
def F_M_state (σ : kS) (x1 : Int32) : Option (Int32) :=
  bd (F_M_none σ x1) (fun r1 =>
    if r1 = 0 then (
      gd (inb x1 12) (
        some (gI σ 6 0 x1.toNatClampNeg)
      )
    ) else (
      some (-1)
    )
  )
def F_M_place (σ : kS) (x1 : Int32) : Option (Int32) :=
  bd (F_M_none σ x1) (fun r1 =>
    if r1 = 0 then (
      gd (inb x1 12) (
        some (gI σ 5 0 x1.toNatClampNeg)
      )
    ) else (
      some (-1)
    )
  )
def F_M_held (σ : kS) (x1 : Int32) (x2 : Int32) : Option (Int32) :=
  bd (F_M_none σ x1) (fun r1 =>
    if r1 = 0 then (
      bd (F_M_within σ x2 0 3) (fun r2 =>
        if r2 = 0 then (
          some (-1)
        ) else (
          gd (inb ((4 * x1) + x2) 48) (
            some (gI σ 14 0 ((4 * x1) + x2).toNatClampNeg)
          )
        )
      )
    ) else (
      some (-1)
    )
  )
def F_M_free (σ : kS) (x1 : Int32) : Option (Int32) :=
  bd (F_M_within σ x1 0 3) (fun r1 =>
    if r1 = 0 then (
      some (-1)
    ) else (
      bd (F_M_rest σ x1) (fun r2 =>
        some r2
      )
    )
  )
def F_M_waiting_16 : Nat → kS → Int32 → Int32 → Int32 → Option (Int32 × Int32)
  | 0, _, _, _, _ => none
  | n + 1, σ, x1, x2, x3 =>
    if (gI σ 30 0 0) ≤ x3 then (
      some (x2, x3)
    ) else (
      if x1 = 4 then (
        gd (inb x3 12) (
          if (gI σ 6 0 x3.toNatClampNeg) = 5 then (
            lx (x2 + 1 : Int32) (fun v9 =>
              F_M_waiting_16 n σ x1 v9 (x3 + 1)
            )
          ) else (
            lx (x2 + 0 : Int32) (fun v8 =>
              F_M_waiting_16 n σ x1 v8 (x3 + 1)
            )
          )
        )
      ) else (
        gd (inb x3 12) (
          if (gI σ 6 0 x3.toNatClampNeg) = 4 then (
            bd (F_M_done σ x3) (fun r3 =>
              gd (inb r3 120) (
                if (gI σ 12 0 r3.toNatClampNeg) = x1 then (
                  lx (x2 + 1 : Int32) (fun v6 =>
                    F_M_waiting_16 n σ x1 v6 (x3 + 1)
                  )
                ) else (
                  lx (x2 + 0 : Int32) (fun v5 =>
                    F_M_waiting_16 n σ x1 v5 (x3 + 1)
                  )
                )
              )
            )
          ) else (
            lx (x2 + 0 : Int32) (fun v2 =>
              F_M_waiting_16 n σ x1 v2 (x3 + 1)
            )
          )
        )
      )
    )
def F_M_waiting (σ : kS) (x1 : Int32) : Option (Int32) :=
  bd (F_M_within σ x1 0 4) (fun r1 =>
    if r1 = 0 then (
      some (-1)
    ) else (
      bd (F_M_waiting_16 1000 σ x1 0 0) (fun ex2 =>
        some ex2.1
      )
    )
  )
def F_M_area (σ : kS) (x1 : Int32) : Option (Int64) :=
  bd (F_M_within σ x1 0 3) (fun r1 =>
    if r1 = 0 then (
      some (-1)
    ) else (
      gd (inb x1 4) (
        some (gL σ 17 0 x1.toNatClampNeg)
      )
    )
  )
def F_M_waited (σ : kS) (x1 : Int32) : Option (Int64) :=
  bd (F_M_within σ x1 0 3) (fun r1 =>
    if r1 = 0 then (
      some (-1)
    ) else (
      gd (inb x1 4) (
        some (gL σ 18 0 x1.toNatClampNeg)
      )
    )
  )
def F_M_level (σ : kS) (x1 : Int32) : Option (Int32) :=
  bd (F_M_within σ x1 0 3) (fun r1 =>
    if r1 = 0 then (
      some (-1)
    ) else (
      gd (inb x1 4) (
        some (gI σ 20 0 x1.toNatClampNeg)
      )
    )
  )
def F_M_stuck_4 : Nat → kS → Int32 → Int32 → Option (Int32 × Int32)
  | 0, _, _, _ => none
  | n + 1, σ, x1, x2 =>
    if (gI σ 30 0 0) ≤ x2 then (
      some (x1, x2)
    ) else (
      if x1 = 0 then (
        gd (inb x2 12) (
          if (gI σ 6 0 x2.toNatClampNeg) = 4 then (
            F_M_stuck_4 n σ 1 (x2 + 1)
          ) else (
            gd (inb x2 12) (
              if (gI σ 6 0 x2.toNatClampNeg) = 5 then (
                F_M_stuck_4 n σ 1 (x2 + 1)
              ) else (
                F_M_stuck_4 n σ 0 (x2 + 1)
              )
            )
          )
        )
      ) else (
        F_M_stuck_4 n σ 1 (x2 + 1)
      )
    )
def F_M_stuck (σ : kS) : Option (Int32) :=
  bd (F_M_stuck_4 1000 σ 0 0) (fun ex1 =>
    if ex1.1 = 0 then (
      some 0
    ) else (
      bd (F_M_first σ) (fun r2 =>
        if 0 ≤ r2 then (
          some 0
        ) else (
          some 1
        )
      )
    )
  )
def F_M_traced (σ : kS) (x1 : Int32) : Option (Int32) :=
  bd (F_M_within σ x1 0 63) (fun r1 =>
    if r1 = 0 then (
      some (-1)
    ) else (
      if (gI σ 33 0 0) ≤ x1 then (
        some (-1)
      ) else (
        gd (inb x1 64) (
          some (gI σ 22 0 x1.toNatClampNeg)
        )
      )
    )
  )
