abbrev m_law : q_M := (code, 7, ret, "LassoDeskLaw", "law", [], some 0)
abbrev q_rW (E : q_E) (ρ : Int32 × (Nat × Nat × q_W)) : q_R := (.inl (some (.int ρ.1)), q_cells E ρ.2.1 ρ.2.2.1 ρ.2.2.2, 601024, 7293034)
def f_law_L (E : q_E) : Nat → Nat → Nat → q_W → Int32 → Option (Int32 × (Nat × Nat × q_W))
  | 0 => fun _ _ _ _ => none
  | n + 1 => fun c d x v4 =>
    if ((Int32.ofNat (q_L E)) - 3) < v4 then
      some ((q_nb 1), (c, d, x))
    else
      (q_xld E v4).bind fun w1 =>
      if (w1 &&& 31) = 0 then
        (q_xld E (v4 + 1)).bind fun w3 =>
        (f_Lw_type c d x w3).bind fun q4 =>
        (q_xld E (v4 + 1)).bind fun w5 =>
        (f_Mo_type q4.2 w5).bind fun q6 =>
        (f_Mo_thrown q6.2).bind fun w7 =>
        if w7 = q4.1 then
          if ¬ q4.1 = 0 then
            (f_law_L E n c d q6.2 (v4 + 3))
          else
            if q6.1 = 0 then
              if (lg_cmp q6.2.1 0) = 0 then
                (f_law_L E n c d q6.2 (v4 + 3))
              else
                some ((q_nb 0), (c, d, q6.2))
            else
              if (lg_cmp q6.2.1 1) = 0 then
                (f_law_L E n c d q6.2 (v4 + 3))
              else
                some ((q_nb 0), (c, d, q6.2))
        else
          some ((q_nb 0), (c, d, q6.2))
      else if (w1 &&& 31) = 1 then
        (f_Lw_formula c d x).bind fun q14 =>
        (f_Mo_formula q14.2.2.2).bind fun q15 =>
        (f_Mo_thrown q15.2).bind fun w16 =>
        if w16 = q14.1 then
          if ¬ q14.1 = 0 then
            (f_law_L E n q14.2.1 q14.2.2.1 q15.2 (v4 + 3))
          else
            if (lg_cmp q15.2.1 q15.1.toInt64) = 0 then
              (f_law_L E n q14.2.1 q14.2.2.1 q15.2 (v4 + 3))
            else
              some ((q_nb 0), (q14.2.1, q14.2.2.1, q15.2))
        else
          some ((q_nb 0), (q14.2.1, q14.2.2.1, q15.2))
      else if (w1 &&& 31) = 2 then
        (f_Lw_states c d x).bind fun q21 =>
        (f_Mo_states q21.2).bind fun q22 =>
        (f_Mo_thrown q22.2).bind fun w23 =>
        if w23 = q21.1 then
          if ¬ q21.1 = 0 then
            (f_law_L E n c d q22.2 (v4 + 3))
          else
            if (lg_cmp q22.2.1 q22.1.toInt64) = 0 then
              (f_law_L E n c d q22.2 (v4 + 3))
            else
              some ((q_nb 0), (c, d, q22.2))
        else
          some ((q_nb 0), (c, d, q22.2))
      else if (w1 &&& 31) = 3 then
        (q_xld E (v4 + 1)).bind fun w28 =>
        (f_Lw_isAt c d x w28).bind fun q29 =>
        (q_xld E (v4 + 1)).bind fun w30 =>
        (f_Mo_isAt q29.2 w30).bind fun q31 =>
        (f_Mo_thrown q31.2).bind fun w32 =>
        if w32 = q29.1 then
          if ¬ q29.1 = 0 then
            (f_law_L E n c d q31.2 (v4 + 3))
          else
            if q31.1 = 0 then
              if (lg_cmp q31.2.1 0) = 0 then
                (f_law_L E n c d q31.2 (v4 + 3))
              else
                some ((q_nb 0), (c, d, q31.2))
            else
              if (lg_cmp q31.2.1 1) = 0 then
                (f_law_L E n c d q31.2 (v4 + 3))
              else
                some ((q_nb 0), (c, d, q31.2))
        else
          some ((q_nb 0), (c, d, q31.2))
      else if (w1 &&& 31) = 4 then
        (q_xld E (v4 + 1)).bind fun w39 =>
        (q_xld E (v4 + 2)).bind fun w40 =>
        (f_Lw_leads c d x w39 w40).bind fun q41 =>
        (q_xld E (v4 + 1)).bind fun w42 =>
        (q_xld E (v4 + 2)).bind fun w43 =>
        (f_Mo_leads q41.2 w42 w43).bind fun q44 =>
        (f_Mo_thrown q44.2).bind fun w45 =>
        if w45 = q41.1 then
          if ¬ q41.1 = 0 then
            (f_law_L E n c d q44.2 (v4 + 3))
          else
            if q44.1 = 0 then
              if (lg_cmp q44.2.1 0) = 0 then
                (f_law_L E n c d q44.2 (v4 + 3))
              else
                some ((q_nb 0), (c, d, q44.2))
            else
              if (lg_cmp q44.2.1 1) = 0 then
                (f_law_L E n c d q44.2 (v4 + 3))
              else
                some ((q_nb 0), (c, d, q44.2))
        else
          some ((q_nb 0), (c, d, q44.2))
      else if (w1 &&& 31) = 5 then
        (q_xld E (v4 + 1)).bind fun w52 =>
        (f_Lw_lasts c d x w52).bind fun q53 =>
        (q_xld E (v4 + 1)).bind fun w54 =>
        (f_Mo_lasts q53.2 w54).bind fun q55 =>
        (f_Mo_thrown q55.2).bind fun w56 =>
        if w56 = q53.1 then
          if ¬ q53.1 = 0 then
            (f_law_L E n c d q55.2 (v4 + 3))
          else
            if q55.1 = 0 then
              if (lg_cmp q55.2.1 0) = 0 then
                (f_law_L E n c d q55.2 (v4 + 3))
              else
                some ((q_nb 0), (c, d, q55.2))
            else
              if (lg_cmp q55.2.1 1) = 0 then
                (f_law_L E n c d q55.2 (v4 + 3))
              else
                some ((q_nb 0), (c, d, q55.2))
        else
          some ((q_nb 0), (c, d, q55.2))
      else if (w1 &&& 31) = 6 then
        (f_Lw_lasting c d x).bind fun q63 =>
        (f_Mo_lasting q63.2).bind fun q64 =>
        (f_Mo_thrown q64.2).bind fun w65 =>
        if w65 = q63.1 then
          if ¬ q63.1 = 0 then
            (f_law_L E n c d q64.2 (v4 + 3))
          else
            if (lg_cmp q64.2.1 q64.1.toInt64) = 0 then
              (f_law_L E n c d q64.2 (v4 + 3))
            else
              some ((q_nb 0), (c, d, q64.2))
        else
          some ((q_nb 0), (c, d, q64.2))
      else if (w1 &&& 31) = 7 then
        (f_Lw_promises c d x).bind fun q70 =>
        (f_Mo_promises q70.2).bind fun q71 =>
        (f_Mo_thrown q71.2).bind fun w72 =>
        if w72 = q70.1 then
          if ¬ q70.1 = 0 then
            (f_law_L E n c d q71.2 (v4 + 3))
          else
            if (lg_cmp q71.2.1 q71.1.toInt64) = 0 then
              (f_law_L E n c d q71.2 (v4 + 3))
            else
              some ((q_nb 0), (c, d, q71.2))
        else
          some ((q_nb 0), (c, d, q71.2))
      else if (w1 &&& 31) = 8 then
        (f_Lw_can c d x).bind fun q77 =>
        (f_Mo_can q77.2).bind fun q78 =>
        (f_Mo_thrown q78.2).bind fun w79 =>
        if w79 = q77.1 then
          if ¬ q77.1 = 0 then
            (f_law_L E n c d q78.2 (v4 + 3))
          else
            if q78.1 = 0 then
              if (lg_cmp q78.2.1 0) = 0 then
                (f_law_L E n c d q78.2 (v4 + 3))
              else
                some ((q_nb 0), (c, d, q78.2))
            else
              if (lg_cmp q78.2.1 1) = 0 then
                (f_law_L E n c d q78.2 (v4 + 3))
              else
                some ((q_nb 0), (c, d, q78.2))
        else
          some ((q_nb 0), (c, d, q78.2))
      else if (w1 &&& 31) = 9 then
        (f_Lw_stem c d x).bind fun q86 =>
        (f_Mo_stem q86.2).bind fun q87 =>
        (f_Mo_thrown q87.2).bind fun w88 =>
        if w88 = q86.1 then
          if ¬ q86.1 = 0 then
            (f_law_L E n c d q87.2 (v4 + 3))
          else
            if (lg_cmp q87.2.1 q87.1.toInt64) = 0 then
              (f_law_L E n c d q87.2 (v4 + 3))
            else
              some ((q_nb 0), (c, d, q87.2))
        else
          some ((q_nb 0), (c, d, q87.2))
      else if (w1 &&& 31) = 10 then
        (f_Lw_loop c d x).bind fun q93 =>
        (f_Mo_loop q93.2).bind fun q94 =>
        (f_Mo_thrown q94.2).bind fun w95 =>
        if w95 = q93.1 then
          if ¬ q93.1 = 0 then
            (f_law_L E n c d q94.2 (v4 + 3))
          else
            if (lg_cmp q94.2.1 q94.1.toInt64) = 0 then
              (f_law_L E n c d q94.2 (v4 + 3))
            else
              some ((q_nb 0), (c, d, q94.2))
        else
          some ((q_nb 0), (c, d, q94.2))
      else if (w1 &&& 31) = 11 then
        (q_xld E (v4 + 1)).bind fun w100 =>
        (f_Lw_step c d x w100).bind fun q101 =>
        (q_xld E (v4 + 1)).bind fun w102 =>
        (f_Mo_step q101.2 w102).bind fun q103 =>
        (f_Mo_thrown q103.2).bind fun w104 =>
        if w104 = q101.1 then
          if ¬ q101.1 = 0 then
            (f_law_L E n c d q103.2 (v4 + 3))
          else
            if (lg_cmp q103.2.1 q103.1.toInt64) = 0 then
              (f_law_L E n c d q103.2 (v4 + 3))
            else
              some ((q_nb 0), (c, d, q103.2))
        else
          some ((q_nb 0), (c, d, q103.2))
      else if (w1 &&& 31) = 12 then
        (q_xld E (v4 + 1)).bind fun w109 =>
        (q_xld E (v4 + 2)).bind fun w110 =>
        (f_Lw_shape c d x w109 w110).bind fun q111 =>
        (q_xld E (v4 + 1)).bind fun w112 =>
        (q_xld E (v4 + 2)).bind fun w113 =>
        (f_Mo_shape q111.2 w112 w113).bind fun x114 =>
        (f_Mo_thrown x114).bind fun w115 =>
        if w115 = q111.1 then
          (f_law_L E n c d x114 (v4 + 3))
        else
          some ((q_nb 0), (c, d, x114))
      else if (w1 &&& 31) = 13 then
        (q_xld E (v4 + 1)).bind fun w118 =>
        (q_xld E (v4 + 2)).bind fun w119 =>
        (f_Lw_set c d x w118 w119).bind fun q120 =>
        (q_xld E (v4 + 1)).bind fun w121 =>
        (q_xld E (v4 + 2)).bind fun w122 =>
        (f_Mo_set q120.2 w121 w122).bind fun q123 =>
        (f_Mo_thrown q123.2).bind fun w124 =>
        if w124 = q120.1 then
          if ¬ q120.1 = 0 then
            (f_law_L E n c d q123.2 (v4 + 3))
          else
            if (lg_cmp q123.2.1 q123.1.toInt64) = 0 then
              (f_law_L E n c d q123.2 (v4 + 3))
            else
              some ((q_nb 0), (c, d, q123.2))
        else
          some ((q_nb 0), (c, d, q123.2))
      else if (w1 &&& 31) = 14 then
        (f_Lw_adopt c d x).bind fun q129 =>
        (f_Mo_adopt q129.2).bind fun q130 =>
        (f_Mo_thrown q130.2).bind fun w131 =>
        if w131 = q129.1 then
          if ¬ q129.1 = 0 then
            (f_law_L E n c d q130.2 (v4 + 3))
          else
            if q130.1 = 0 then
              if (lg_cmp q130.2.1 0) = 0 then
                (f_law_L E n c d q130.2 (v4 + 3))
              else
                some ((q_nb 0), (c, d, q130.2))
            else
              if (lg_cmp q130.2.1 1) = 0 then
                (f_law_L E n c d q130.2 (v4 + 3))
              else
                some ((q_nb 0), (c, d, q130.2))
        else
          some ((q_nb 0), (c, d, q130.2))
      else if (w1 &&& 31) = 15 then
        (q_xld E (v4 + 1)).bind fun w138 =>
        (f_Lw_letter c d x w138).bind fun q139 =>
        (q_xld E (v4 + 1)).bind fun w140 =>
        (f_Mo_letter q139.2 w140).bind fun q141 =>
        (f_Mo_thrown q141.2).bind fun w142 =>
        if w142 = q139.1 then
          if ¬ q139.1 = 0 then
            (f_law_L E n c d q141.2 (v4 + 3))
          else
            if (lg_cmp q141.2.1 q141.1.toInt64) = 0 then
              (f_law_L E n c d q141.2 (v4 + 3))
            else
              some ((q_nb 0), (c, d, q141.2))
        else
          some ((q_nb 0), (c, d, q141.2))
      else if (w1 &&& 31) = 16 then
        (q_xld E (v4 + 1)).bind fun w147 =>
        (f_Lw_holds c d x w147).bind fun q148 =>
        (q_xld E (v4 + 1)).bind fun w149 =>
        (f_Mo_holds q148.2 w149).bind fun q150 =>
        (f_Mo_thrown q150.2).bind fun w151 =>
        if w151 = q148.1 then
          if ¬ q148.1 = 0 then
            (f_law_L E n c d q150.2 (v4 + 3))
          else
            if q150.1 = 0 then
              if (lg_cmp q150.2.1 0) = 0 then
                (f_law_L E n c d q150.2 (v4 + 3))
              else
                some ((q_nb 0), (c, d, q150.2))
            else
              if (lg_cmp q150.2.1 1) = 0 then
                (f_law_L E n c d q150.2 (v4 + 3))
              else
                some ((q_nb 0), (c, d, q150.2))
        else
          some ((q_nb 0), (c, d, q150.2))
      else 
        (f_law_L E n c d x (v4 + 3))
