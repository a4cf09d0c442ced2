theorem sels_in {w : Cond} (h : w ∈ k2_sels lw_privs) : w ∈ lw_tbl := List.mem_append_left _ h
def mX8_init : MD := (yX8_init, cX8_init, 1, none, true)
theorem okX8_init : MOk mX8_init 0 := ⟨by decide +kernel, lw_g_in (t1_in (List.mem_of_getElem? (i := 24) rfl)) rfl, lw_g_in (t1_in (List.mem_of_getElem? (i := 1) rfl)) rfl, ⟨by decide +kernel, by decide +kernel, by decide +kernel⟩, by decide +kernel, fun _ => rfl⟩
theorem inX8_init : Cond.instanceMethod mX8_init.1 ∈ lw_g := lw_g_in (t1_in (List.mem_of_getElem? (i := 23) rfl)) rfl
def mX6_init : MD := (yX6_init, cX6_init, 1, none, true)
theorem okX6_init : MOk mX6_init 0 := ⟨by decide +kernel, lw_g_in (t1_in (List.mem_of_getElem? (i := 36) rfl)) rfl, lw_g_in (t1_in (List.mem_of_getElem? (i := 2) rfl)) rfl, ⟨by decide +kernel, by decide +kernel, by decide +kernel⟩, by decide +kernel, fun _ => rfl⟩
theorem inX6_init : Cond.instanceMethod mX6_init.1 ∈ lw_g := lw_g_in (t1_in (List.mem_of_getElem? (i := 35) rfl)) rfl
def mJx4a65c_init_da8c8 : MD := (yJx4a65c_init_da8c8, cJx4a65c_init_da8c8, 1, none, true)
theorem okJx4a65c_init_da8c8 : MOk mJx4a65c_init_da8c8 0 := ⟨by decide +kernel, lw_g_in (t1_in (List.mem_of_getElem? (i := 44) rfl)) rfl, lw_g_in (t1_in (List.mem_of_getElem? (i := 5) rfl)) rfl, ⟨by decide +kernel, by decide +kernel, by decide +kernel⟩, by decide +kernel, fun _ => rfl⟩
theorem inJx4a65c_init_da8c8 : Cond.instanceMethod mJx4a65c_init_da8c8.1 ∈ lw_g := lw_g_in (t1_in (List.mem_of_getElem? (i := 43) rfl)) rfl
def mJxc12de_init_da8c8 : MD := (yJxc12de_init_da8c8, cJxc12de_init_da8c8, 1, none, true)
theorem okJxc12de_init_da8c8 : MOk mJxc12de_init_da8c8 0 := ⟨by decide +kernel, lw_g_in (t1_in (List.mem_of_getElem? (i := 47) rfl)) rfl, lw_g_in (t1_in (List.mem_of_getElem? (i := 4) rfl)) rfl, ⟨by decide +kernel, by decide +kernel, by decide +kernel⟩, by decide +kernel, fun _ => rfl⟩
theorem inJxc12de_init_da8c8 : Cond.instanceMethod mJxc12de_init_da8c8.1 ∈ lw_g := lw_g_in (t1_in (List.mem_of_getElem? (i := 46) rfl)) rfl
def mJxa1e45_init_da8c8 : MD := (yJxa1e45_init_da8c8, cJxa1e45_init_da8c8, 1, none, true)
theorem okJxa1e45_init_da8c8 : MOk mJxa1e45_init_da8c8 0 := ⟨by decide +kernel, lw_g_in (t1_in (List.mem_of_getElem? (i := 50) rfl)) rfl, lw_g_in (t1_in (List.mem_of_getElem? (i := 3) rfl)) rfl, ⟨by decide +kernel, by decide +kernel, by decide +kernel⟩, by decide +kernel, fun _ => rfl⟩
theorem inJxa1e45_init_da8c8 : Cond.instanceMethod mJxa1e45_init_da8c8.1 ∈ lw_g := lw_g_in (t1_in (List.mem_of_getElem? (i := 49) rfl)) rfl
def mX8_say : MD := (yX8_say, cX8_say, 7, (some .boolean), false)
theorem okX8_say : MOk mX8_say 2 := ⟨by decide +kernel, lw_g_in (t1_in (List.mem_of_getElem? (i := 128) rfl)) rfl, lw_g_in (t1_in (List.mem_of_getElem? (i := 1) rfl)) rfl, ⟨by decide +kernel, by decide +kernel, by decide +kernel⟩, by decide +kernel, fun h => absurd h (by decide)⟩
theorem inX8_say : Cond.instanceMethod mX8_say.1 ∈ lw_g := lw_g_in (t1_in (List.mem_of_getElem? (i := 126) rfl)) rfl
theorem seX8_say : Cond.selects mX8_say.1.cls mX8_say.1 mX8_say.1 ∈ lw_g := lw_g_in (t1_in (List.mem_of_getElem? (i := 127) rfl)) rfl
def mX8_isName : MD := (yX8_isName, cX8_isName, 4, (some .boolean), false)
theorem okX8_isName : MOk mX8_isName 1 := ⟨by decide +kernel, lw_g_in (t1_in (List.mem_of_getElem? (i := 131) rfl)) rfl, lw_g_in (t1_in (List.mem_of_getElem? (i := 1) rfl)) rfl, ⟨by decide +kernel, by decide +kernel, by decide +kernel⟩, by decide +kernel, fun h => absurd h (by decide)⟩
theorem stX8_isName : Cond.static mX8_isName.1 ∈ lw_g := lw_g_in (t1_in (List.mem_of_getElem? (i := 130) rfl)) rfl
def mX8_partsOf : MD := (yX8_partsOf, cX8_partsOf, 1, (some .int), false)
theorem okX8_partsOf : MOk mX8_partsOf 1 := ⟨by decide +kernel, lw_g_in (t1_in (List.mem_of_getElem? (i := 134) rfl)) rfl, lw_g_in (t1_in (List.mem_of_getElem? (i := 1) rfl)) rfl, ⟨by decide +kernel, by decide +kernel, by decide +kernel⟩, by decide +kernel, fun h => absurd h (by decide)⟩
theorem stX8_partsOf : Cond.static mX8_partsOf.1 ∈ lw_g := lw_g_in (t1_in (List.mem_of_getElem? (i := 133) rfl)) rfl
def mX8_fits : MD := (yX8_fits, cX8_fits, 2, (some .boolean), false)
theorem okX8_fits : MOk mX8_fits 2 := ⟨by decide +kernel, lw_g_in (t1_in (List.mem_of_getElem? (i := 137) rfl)) rfl, lw_g_in (t1_in (List.mem_of_getElem? (i := 1) rfl)) rfl, ⟨by decide +kernel, by decide +kernel, by decide +kernel⟩, by decide +kernel, fun h => absurd h (by decide)⟩
theorem stX8_fits : Cond.static mX8_fits.1 ∈ lw_g := lw_g_in (t1_in (List.mem_of_getElem? (i := 136) rfl)) rfl
def mX1_isBool : MD := (yX1_isBool, cX1_isBool, 1, (some .boolean), false)
theorem okX1_isBool : MOk mX1_isBool 0 := ⟨by decide +kernel, lw_g_in (t1_in (List.mem_of_getElem? (i := 142) rfl)) rfl, lw_g_in (t1_in (List.mem_of_getElem? (i := 7) rfl)) rfl, ⟨by decide +kernel, by decide +kernel, by decide +kernel⟩, by decide +kernel, fun h => absurd h (by decide)⟩
theorem inX1_isBool : Cond.instanceMethod mX1_isBool.1 ∈ lw_g := lw_g_in (t1_in (List.mem_of_getElem? (i := 140) rfl)) rfl
theorem seX1_isBool : Cond.selects mX1_isBool.1.cls mX1_isBool.1 mX1_isBool.1 ∈ lw_g := lw_g_in (sels_in (List.mem_of_getElem? (i := 0) rfl)) rfl
def mX8_takesBools : MD := (yX8_takesBools, cX8_takesBools, 1, (some .boolean), false)
theorem okX8_takesBools : MOk mX8_takesBools 1 := ⟨by decide +kernel, lw_g_in (t1_in (List.mem_of_getElem? (i := 145) rfl)) rfl, lw_g_in (t1_in (List.mem_of_getElem? (i := 1) rfl)) rfl, ⟨by decide +kernel, by decide +kernel, by decide +kernel⟩, by decide +kernel, fun h => absurd h (by decide)⟩
theorem stX8_takesBools : Cond.static mX8_takesBools.1 ∈ lw_g := lw_g_in (t1_in (List.mem_of_getElem? (i := 144) rfl)) rfl
def mX1_nodesOf : MD := (yX1_nodesOf, cX1_nodesOf, 1, (some .int), false)
theorem okX1_nodesOf : MOk mX1_nodesOf 1 := ⟨by decide +kernel, lw_g_in (t1_in (List.mem_of_getElem? (i := 148) rfl)) rfl, lw_g_in (t1_in (List.mem_of_getElem? (i := 7) rfl)) rfl, ⟨by decide +kernel, by decide +kernel, by decide +kernel⟩, by decide +kernel, fun h => absurd h (by decide)⟩
theorem stX1_nodesOf : Cond.static mX1_nodesOf.1 ∈ lw_g := lw_g_in (t1_in (List.mem_of_getElem? (i := 147) rfl)) rfl
def mX8_countsN : MD := (yX8_countsN, cX8_countsN, 1, (some .boolean), false)
theorem okX8_countsN : MOk mX8_countsN 1 := ⟨by decide +kernel, lw_g_in (t1_in (List.mem_of_getElem? (i := 151) rfl)) rfl, lw_g_in (t1_in (List.mem_of_getElem? (i := 1) rfl)) rfl, ⟨by decide +kernel, by decide +kernel, by decide +kernel⟩, by decide +kernel, fun h => absurd h (by decide)⟩
theorem stX8_countsN : Cond.static mX8_countsN.1 ∈ lw_g := lw_g_in (t1_in (List.mem_of_getElem? (i := 150) rfl)) rfl
def mX1_init : MD := (yX1_init, cX1_init, 5, none, true)
theorem okX1_init : MOk mX1_init 4 := ⟨by decide +kernel, lw_g_in (t1_in (List.mem_of_getElem? (i := 154) rfl)) rfl, lw_g_in (t1_in (List.mem_of_getElem? (i := 7) rfl)) rfl, ⟨by decide +kernel, by decide +kernel, by decide +kernel⟩, by decide +kernel, fun _ => rfl⟩
theorem inX1_init : Cond.instanceMethod mX1_init.1 ∈ lw_g := lw_g_in (t1_in (List.mem_of_getElem? (i := 153) rfl)) rfl
def mX8_index : MD := (yX8_index, cX8_index, 2, (some .int), false)
theorem okX8_index : MOk mX8_index 0 := ⟨by decide +kernel, lw_g_in (t1_in (List.mem_of_getElem? (i := 180) rfl)) rfl, lw_g_in (t1_in (List.mem_of_getElem? (i := 1) rfl)) rfl, ⟨by decide +kernel, by decide +kernel, by decide +kernel⟩, by decide +kernel, fun h => absurd h (by decide)⟩
theorem inX8_index : Cond.instanceMethod mX8_index.1 ∈ lw_g := lw_g_in (t1_in (List.mem_of_getElem? (i := 178) rfl)) rfl
theorem seX8_index : Cond.selects mX8_index.1.cls mX8_index.1 mX8_index.1 ∈ lw_g := lw_g_in (t1_in (List.mem_of_getElem? (i := 179) rfl)) rfl
def mX8_topOfPile : MD := (yX8_topOfPile, cX8_topOfPile, 1, (some (.object "VersionedRows$Expression")), false)
theorem okX8_topOfPile : MOk mX8_topOfPile 0 := ⟨by decide +kernel, lw_g_in (t1_in (List.mem_of_getElem? (i := 184) rfl)) rfl, lw_g_in (t1_in (List.mem_of_getElem? (i := 1) rfl)) rfl, ⟨by decide +kernel, by decide +kernel, by decide +kernel⟩, by decide +kernel, fun h => absurd h (by decide)⟩
theorem inX8_topOfPile : Cond.instanceMethod mX8_topOfPile.1 ∈ lw_g := lw_g_in (t1_in (List.mem_of_getElem? (i := 183) rfl)) rfl
theorem seX8_topOfPile : Cond.selects mX8_topOfPile.1.cls mX8_topOfPile.1 mX8_topOfPile.1 ∈ lw_g := lw_g_in (sels_in (List.mem_of_getElem? (i := 1) rfl)) rfl
def mX8_begin : MD := (yX8_begin, cX8_begin, 1, (some .int), false)
theorem okX8_begin : MOk mX8_begin 0 := ⟨by decide +kernel, lw_g_in (t1_in (List.mem_of_getElem? (i := 188) rfl)) rfl, lw_g_in (t1_in (List.mem_of_getElem? (i := 1) rfl)) rfl, ⟨by decide +kernel, by decide +kernel, by decide +kernel⟩, by decide +kernel, fun h => absurd h (by decide)⟩
theorem inX8_begin : Cond.instanceMethod mX8_begin.1 ∈ lw_g := lw_g_in (t1_in (List.mem_of_getElem? (i := 186) rfl)) rfl
theorem seX8_begin : Cond.selects mX8_begin.1.cls mX8_begin.1 mX8_begin.1 ∈ lw_g := lw_g_in (t1_in (List.mem_of_getElem? (i := 187) rfl)) rfl
def mX8_countOpen : MD := (yX8_countOpen, cX8_countOpen, 3, (some .int), false)
theorem okX8_countOpen : MOk mX8_countOpen 0 := ⟨by decide +kernel, lw_g_in (t1_in (List.mem_of_getElem? (i := 192) rfl)) rfl, lw_g_in (t1_in (List.mem_of_getElem? (i := 1) rfl)) rfl, ⟨by decide +kernel, by decide +kernel, by decide +kernel⟩, by decide +kernel, fun h => absurd h (by decide)⟩
theorem inX8_countOpen : Cond.instanceMethod mX8_countOpen.1 ∈ lw_g := lw_g_in (t1_in (List.mem_of_getElem? (i := 191) rfl)) rfl
theorem seX8_countOpen : Cond.selects mX8_countOpen.1.cls mX8_countOpen.1 mX8_countOpen.1 ∈ lw_g := lw_g_in (sels_in (List.mem_of_getElem? (i := 2) rfl)) rfl
def mX7_isOpen : MD := (yX7_isOpen, cX7_isOpen, 1, (some .boolean), false)
theorem okX7_isOpen : MOk mX7_isOpen 0 := ⟨by decide +kernel, lw_g_in (t1_in (List.mem_of_getElem? (i := 197) rfl)) rfl, lw_g_in (t1_in (List.mem_of_getElem? (i := 8) rfl)) rfl, ⟨by decide +kernel, by decide +kernel, by decide +kernel⟩, by decide +kernel, fun h => absurd h (by decide)⟩
theorem inX7_isOpen : Cond.instanceMethod mX7_isOpen.1 ∈ lw_g := lw_g_in (t1_in (List.mem_of_getElem? (i := 195) rfl)) rfl
theorem seX7_isOpen : Cond.selects mX7_isOpen.1.cls mX7_isOpen.1 mX7_isOpen.1 ∈ lw_g := lw_g_in (sels_in (List.mem_of_getElem? (i := 3) rfl)) rfl
def mX7_init : MD := (yX7_init, cX7_init, 2, none, true)
theorem okX7_init : MOk mX7_init 1 := ⟨by decide +kernel, lw_g_in (t1_in (List.mem_of_getElem? (i := 200) rfl)) rfl, lw_g_in (t1_in (List.mem_of_getElem? (i := 8) rfl)) rfl, ⟨by decide +kernel, by decide +kernel, by decide +kernel⟩, by decide +kernel, fun _ => rfl⟩
theorem inX7_init : Cond.instanceMethod mX7_init.1 ∈ lw_g := lw_g_in (t1_in (List.mem_of_getElem? (i := 199) rfl)) rfl
def mX8_read : MD := (yX8_read, cX8_read, 6, (some .int), false)
theorem okX8_read : MOk mX8_read 3 := ⟨by decide +kernel, lw_g_in (t1_in (List.mem_of_getElem? (i := 229) rfl)) rfl, lw_g_in (t1_in (List.mem_of_getElem? (i := 1) rfl)) rfl, ⟨by decide +kernel, by decide +kernel, by decide +kernel⟩, by decide +kernel, fun h => absurd h (by decide)⟩
theorem inX8_read : Cond.instanceMethod mX8_read.1 ∈ lw_g := lw_g_in (t1_in (List.mem_of_getElem? (i := 227) rfl)) rfl
theorem seX8_read : Cond.selects mX8_read.1.cls mX8_read.1 mX8_read.1 ∈ lw_g := lw_g_in (t1_in (List.mem_of_getElem? (i := 228) rfl)) rfl
def mX8_openOne : MD := (yX8_openOne, cX8_openOne, 3, (some (.object "VersionedRows$Transaction")), false)
theorem okX8_openOne : MOk mX8_openOne 1 := ⟨by decide +kernel, lw_g_in (t1_in (List.mem_of_getElem? (i := 233) rfl)) rfl, lw_g_in (t1_in (List.mem_of_getElem? (i := 1) rfl)) rfl, ⟨by decide +kernel, by decide +kernel, by decide +kernel⟩, by decide +kernel, fun h => absurd h (by decide)⟩
theorem inX8_openOne : Cond.instanceMethod mX8_openOne.1 ∈ lw_g := lw_g_in (t1_in (List.mem_of_getElem? (i := 232) rfl)) rfl
theorem seX8_openOne : Cond.selects mX8_openOne.1.cls mX8_openOne.1 mX8_openOne.1 ∈ lw_g := lw_g_in (sels_in (List.mem_of_getElem? (i := 4) rfl)) rfl
def mX8_transactionOf : MD := (yX8_transactionOf, cX8_transactionOf, 2, (some (.object "VersionedRows$Transaction")), false)
theorem okX8_transactionOf : MOk mX8_transactionOf 1 := ⟨by decide +kernel, lw_g_in (t1_in (List.mem_of_getElem? (i := 237) rfl)) rfl, lw_g_in (t1_in (List.mem_of_getElem? (i := 1) rfl)) rfl, ⟨by decide +kernel, by decide +kernel, by decide +kernel⟩, by decide +kernel, fun h => absurd h (by decide)⟩
theorem inX8_transactionOf : Cond.instanceMethod mX8_transactionOf.1 ∈ lw_g := lw_g_in (t1_in (List.mem_of_getElem? (i := 236) rfl)) rfl
theorem seX8_transactionOf : Cond.selects mX8_transactionOf.1.cls mX8_transactionOf.1 mX8_transactionOf.1 ∈ lw_g := lw_g_in (sels_in (List.mem_of_getElem? (i := 5) rfl)) rfl
def mX8_isKey : MD := (yX8_isKey, cX8_isKey, 1, (some .boolean), false)
theorem okX8_isKey : MOk mX8_isKey 1 := ⟨by decide +kernel, lw_g_in (t2_in (List.mem_of_getElem? (i := 0) rfl)) rfl, lw_g_in (t1_in (List.mem_of_getElem? (i := 1) rfl)) rfl, ⟨by decide +kernel, by decide +kernel, by decide +kernel⟩, by decide +kernel, fun h => absurd h (by decide)⟩
theorem stX8_isKey : Cond.static mX8_isKey.1 ∈ lw_g := lw_g_in (t1_in (List.mem_of_getElem? (i := 239) rfl)) rfl
def mX8_rowFor : MD := (yX8_rowFor, cX8_rowFor, 3, (some (.object "VersionedRows$Row")), false)
theorem okX8_rowFor : MOk mX8_rowFor 2 := ⟨by decide +kernel, lw_g_in (t2_in (List.mem_of_getElem? (i := 4) rfl)) rfl, lw_g_in (t1_in (List.mem_of_getElem? (i := 1) rfl)) rfl, ⟨by decide +kernel, by decide +kernel, by decide +kernel⟩, by decide +kernel, fun h => absurd h (by decide)⟩
theorem inX8_rowFor : Cond.instanceMethod mX8_rowFor.1 ∈ lw_g := lw_g_in (t2_in (List.mem_of_getElem? (i := 3) rfl)) rfl
theorem seX8_rowFor : Cond.selects mX8_rowFor.1.cls mX8_rowFor.1 mX8_rowFor.1 ∈ lw_g := lw_g_in (sels_in (List.mem_of_getElem? (i := 6) rfl)) rfl
def mX6_rowAt : MD := (yX6_rowAt, cX6_rowAt, 4, (some (.object "VersionedRows$Row")), false)
theorem okX6_rowAt : MOk mX6_rowAt 2 := ⟨by decide +kernel, lw_g_in (t2_in (List.mem_of_getElem? (i := 8) rfl)) rfl, lw_g_in (t1_in (List.mem_of_getElem? (i := 2) rfl)) rfl, ⟨by decide +kernel, by decide +kernel, by decide +kernel⟩, by decide +kernel, fun h => absurd h (by decide)⟩
theorem inX6_rowAt : Cond.instanceMethod mX6_rowAt.1 ∈ lw_g := lw_g_in (t2_in (List.mem_of_getElem? (i := 7) rfl)) rfl
theorem seX6_rowAt : Cond.selects mX6_rowAt.1.cls mX6_rowAt.1 mX6_rowAt.1 ∈ lw_g := lw_g_in (sels_in (List.mem_of_getElem? (i := 7) rfl)) rfl
def mX6_seenRow : MD := (yX6_seenRow, cX6_seenRow, 6, (some (.object "VersionedRows$Entry")), false)
theorem okX6_seenRow : MOk mX6_seenRow 2 := ⟨by decide +kernel, lw_g_in (t2_in (List.mem_of_getElem? (i := 12) rfl)) rfl, lw_g_in (t1_in (List.mem_of_getElem? (i := 2) rfl)) rfl, ⟨by decide +kernel, by decide +kernel, by decide +kernel⟩, by decide +kernel, fun h => absurd h (by decide)⟩
theorem inX6_seenRow : Cond.instanceMethod mX6_seenRow.1 ∈ lw_g := lw_g_in (t2_in (List.mem_of_getElem? (i := 11) rfl)) rfl
theorem seX6_seenRow : Cond.selects mX6_seenRow.1.cls mX6_seenRow.1 mX6_seenRow.1 ∈ lw_g := lw_g_in (sels_in (List.mem_of_getElem? (i := 8) rfl)) rfl
def mX0_placeOf : MD := (yX0_placeOf, cX0_placeOf, 3, (some .long), false)
theorem okX0_placeOf : MOk mX0_placeOf 3 := ⟨by decide +kernel, lw_g_in (t2_in (List.mem_of_getElem? (i := 15) rfl)) rfl, lw_g_in (t1_in (List.mem_of_getElem? (i := 9) rfl)) rfl, ⟨by decide +kernel, by decide +kernel, by decide +kernel⟩, by decide +kernel, fun h => absurd h (by decide)⟩
theorem stX0_placeOf : Cond.static mX0_placeOf.1 ∈ lw_g := lw_g_in (t2_in (List.mem_of_getElem? (i := 14) rfl)) rfl
def mX6_countBefore : MD := (yX6_countBefore, cX6_countBefore, 7, (some .int), false)
theorem okX6_countBefore : MOk mX6_countBefore 2 := ⟨by decide +kernel, lw_g_in (t2_in (List.mem_of_getElem? (i := 20) rfl)) rfl, lw_g_in (t1_in (List.mem_of_getElem? (i := 2) rfl)) rfl, ⟨by decide +kernel, by decide +kernel, by decide +kernel⟩, by decide +kernel, fun h => absurd h (by decide)⟩
theorem inX6_countBefore : Cond.instanceMethod mX6_countBefore.1 ∈ lw_g := lw_g_in (t2_in (List.mem_of_getElem? (i := 19) rfl)) rfl
theorem seX6_countBefore : Cond.selects mX6_countBefore.1.cls mX6_countBefore.1 mX6_countBefore.1 ∈ lw_g := lw_g_in (sels_in (List.mem_of_getElem? (i := 9) rfl)) rfl
def mX0_isBefore : MD := (yX0_isBefore, cX0_isBefore, 4, (some .boolean), false)
theorem okX0_isBefore : MOk mX0_isBefore 2 := ⟨by decide +kernel, lw_g_in (t2_in (List.mem_of_getElem? (i := 25) rfl)) rfl, lw_g_in (t1_in (List.mem_of_getElem? (i := 9) rfl)) rfl, ⟨by decide +kernel, by decide +kernel, by decide +kernel⟩, by decide +kernel, fun h => absurd h (by decide)⟩
theorem inX0_isBefore : Cond.instanceMethod mX0_isBefore.1 ∈ lw_g := lw_g_in (t2_in (List.mem_of_getElem? (i := 23) rfl)) rfl
theorem seX0_isBefore : Cond.selects mX0_isBefore.1.cls mX0_isBefore.1 mX0_isBefore.1 ∈ lw_g := lw_g_in (sels_in (List.mem_of_getElem? (i := 10) rfl)) rfl
def mX8_write : MD := (yX8_write, cX8_write, 7, (some .boolean), false)
theorem okX8_write : MOk mX8_write 5 := ⟨by decide +kernel, lw_g_in (t2_in (List.mem_of_getElem? (i := 29) rfl)) rfl, lw_g_in (t1_in (List.mem_of_getElem? (i := 1) rfl)) rfl, ⟨by decide +kernel, by decide +kernel, by decide +kernel⟩, by decide +kernel, fun h => absurd h (by decide)⟩
theorem inX8_write : Cond.instanceMethod mX8_write.1 ∈ lw_g := lw_g_in (t2_in (List.mem_of_getElem? (i := 27) rfl)) rfl
theorem seX8_write : Cond.selects mX8_write.1.cls mX8_write.1 mX8_write.1 ∈ lw_g := lw_g_in (t2_in (List.mem_of_getElem? (i := 28) rfl)) rfl
def mX3_init : MD := (yX3_init, cX3_init, 4, none, true)
theorem okX3_init : MOk mX3_init 3 := ⟨by decide +kernel, lw_g_in (t2_in (List.mem_of_getElem? (i := 34) rfl)) rfl, lw_g_in (t1_in (List.mem_of_getElem? (i := 10) rfl)) rfl, ⟨by decide +kernel, by decide +kernel, by decide +kernel⟩, by decide +kernel, fun _ => rfl⟩
theorem inX3_init : Cond.instanceMethod mX3_init.1 ∈ lw_g := lw_g_in (t2_in (List.mem_of_getElem? (i := 33) rfl)) rfl
def mX7_put : MD := (yX7_put, cX7_put, 3, none, false)
theorem okX7_put : MOk mX7_put 2 := ⟨by decide +kernel, lw_g_in (t2_in (List.mem_of_getElem? (i := 55) rfl)) rfl, lw_g_in (t1_in (List.mem_of_getElem? (i := 8) rfl)) rfl, ⟨by decide +kernel, by decide +kernel, by decide +kernel⟩, by decide +kernel, fun h => absurd h (by decide)⟩
theorem inX7_put : Cond.instanceMethod mX7_put.1 ∈ lw_g := lw_g_in (t2_in (List.mem_of_getElem? (i := 54) rfl)) rfl
theorem seX7_put : Cond.selects mX7_put.1.cls mX7_put.1 mX7_put.1 ∈ lw_g := lw_g_in (sels_in (List.mem_of_getElem? (i := 11) rfl)) rfl
def mX8_remove : MD := (yX8_remove, cX8_remove, 4, (some .boolean), false)
theorem okX8_remove : MOk mX8_remove 2 := ⟨by decide +kernel, lw_g_in (t2_in (List.mem_of_getElem? (i := 59) rfl)) rfl, lw_g_in (t1_in (List.mem_of_getElem? (i := 1) rfl)) rfl, ⟨by decide +kernel, by decide +kernel, by decide +kernel⟩, by decide +kernel, fun h => absurd h (by decide)⟩
theorem inX8_remove : Cond.instanceMethod mX8_remove.1 ∈ lw_g := lw_g_in (t2_in (List.mem_of_getElem? (i := 57) rfl)) rfl
theorem seX8_remove : Cond.selects mX8_remove.1.cls mX8_remove.1 mX8_remove.1 ∈ lw_g := lw_g_in (t2_in (List.mem_of_getElem? (i := 58) rfl)) rfl
def mX8_query : MD := (yX8_query, cX8_query, 4, (some .int), false)
theorem okX8_query : MOk mX8_query 1 := ⟨by decide +kernel, lw_g_in (t2_in (List.mem_of_getElem? (i := 63) rfl)) rfl, lw_g_in (t1_in (List.mem_of_getElem? (i := 1) rfl)) rfl, ⟨by decide +kernel, by decide +kernel, by decide +kernel⟩, by decide +kernel, fun h => absurd h (by decide)⟩
theorem inX8_query : Cond.instanceMethod mX8_query.1 ∈ lw_g := lw_g_in (t2_in (List.mem_of_getElem? (i := 61) rfl)) rfl
theorem seX8_query : Cond.selects mX8_query.1.cls mX8_query.1 mX8_query.1 ∈ lw_g := lw_g_in (t2_in (List.mem_of_getElem? (i := 62) rfl)) rfl
def mX8_choosePlan : MD := (yX8_choosePlan, cX8_choosePlan, 4, none, false)
theorem okX8_choosePlan : MOk mX8_choosePlan 1 := ⟨by decide +kernel, lw_g_in (t2_in (List.mem_of_getElem? (i := 67) rfl)) rfl, lw_g_in (t1_in (List.mem_of_getElem? (i := 1) rfl)) rfl, ⟨by decide +kernel, by decide +kernel, by decide +kernel⟩, by decide +kernel, fun h => absurd h (by decide)⟩
theorem inX8_choosePlan : Cond.instanceMethod mX8_choosePlan.1 ∈ lw_g := lw_g_in (t2_in (List.mem_of_getElem? (i := 66) rfl)) rfl
theorem seX8_choosePlan : Cond.selects mX8_choosePlan.1.cls mX8_choosePlan.1 mX8_choosePlan.1 ∈ lw_g := lw_g_in (sels_in (List.mem_of_getElem? (i := 12) rfl)) rfl
def mX2_init : MD := (yX2_init, cX2_init, 2, none, true)
theorem okX2_init : MOk mX2_init 1 := ⟨by decide +kernel, lw_g_in (t2_in (List.mem_of_getElem? (i := 72) rfl)) rfl, lw_g_in (t1_in (List.mem_of_getElem? (i := 11) rfl)) rfl, ⟨by decide +kernel, by decide +kernel, by decide +kernel⟩, by decide +kernel, fun _ => rfl⟩
theorem inX2_init : Cond.instanceMethod mX2_init.1 ∈ lw_g := lw_g_in (t2_in (List.mem_of_getElem? (i := 71) rfl)) rfl
def mX2_tellConjuncts : MD := (yX2_tellConjuncts, cX2_tellConjuncts, 2, none, false)
theorem okX2_tellConjuncts : MOk mX2_tellConjuncts 2 := ⟨by decide +kernel, lw_g_in (t2_in (List.mem_of_getElem? (i := 94) rfl)) rfl, lw_g_in (t1_in (List.mem_of_getElem? (i := 11) rfl)) rfl, ⟨by decide +kernel, by decide +kernel, by decide +kernel⟩, by decide +kernel, fun h => absurd h (by decide)⟩
theorem stX2_tellConjuncts : Cond.static mX2_tellConjuncts.1 ∈ lw_g := lw_g_in (t2_in (List.mem_of_getElem? (i := 93) rfl)) rfl
def mX2_hear : MD := (yX2_hear, cX2_hear, 6, none, false)
theorem okX2_hear : MOk mX2_hear 3 := ⟨by decide +kernel, lw_g_in (t2_in (List.mem_of_getElem? (i := 99) rfl)) rfl, lw_g_in (t1_in (List.mem_of_getElem? (i := 11) rfl)) rfl, ⟨by decide +kernel, by decide +kernel, by decide +kernel⟩, by decide +kernel, fun h => absurd h (by decide)⟩
theorem inX2_hear : Cond.instanceMethod mX2_hear.1 ∈ lw_g := lw_g_in (t2_in (List.mem_of_getElem? (i := 98) rfl)) rfl
theorem seX2_hear : Cond.selects mX2_hear.1.cls mX2_hear.1 mX2_hear.1 ∈ lw_g := lw_g_in (sels_in (List.mem_of_getElem? (i := 13) rfl)) rfl
def mX1_isConst : MD := (yX1_isConst, cX1_isConst, 1, (some .boolean), false)
theorem okX1_isConst : MOk mX1_isConst 0 := ⟨by decide +kernel, lw_g_in (t2_in (List.mem_of_getElem? (i := 103) rfl)) rfl, lw_g_in (t1_in (List.mem_of_getElem? (i := 7) rfl)) rfl, ⟨by decide +kernel, by decide +kernel, by decide +kernel⟩, by decide +kernel, fun h => absurd h (by decide)⟩
theorem inX1_isConst : Cond.instanceMethod mX1_isConst.1 ∈ lw_g := lw_g_in (t2_in (List.mem_of_getElem? (i := 102) rfl)) rfl
theorem seX1_isConst : Cond.selects mX1_isConst.1.cls mX1_isConst.1 mX1_isConst.1 ∈ lw_g := lw_g_in (sels_in (List.mem_of_getElem? (i := 14) rfl)) rfl
def mX1_areSame : MD := (yX1_areSame, cX1_areSame, 2, (some .boolean), false)
theorem okX1_areSame : MOk mX1_areSame 2 := ⟨by decide +kernel, lw_g_in (t2_in (List.mem_of_getElem? (i := 106) rfl)) rfl, lw_g_in (t1_in (List.mem_of_getElem? (i := 7) rfl)) rfl, ⟨by decide +kernel, by decide +kernel, by decide +kernel⟩, by decide +kernel, fun h => absurd h (by decide)⟩
theorem stX1_areSame : Cond.static mX1_areSame.1 ∈ lw_g := lw_g_in (t2_in (List.mem_of_getElem? (i := 105) rfl)) rfl
def mX2_narrow : MD := (yX2_narrow, cX2_narrow, 5, none, false)
theorem okX2_narrow : MOk mX2_narrow 2 := ⟨by decide +kernel, lw_g_in (t2_in (List.mem_of_getElem? (i := 111) rfl)) rfl, lw_g_in (t1_in (List.mem_of_getElem? (i := 11) rfl)) rfl, ⟨by decide +kernel, by decide +kernel, by decide +kernel⟩, by decide +kernel, fun h => absurd h (by decide)⟩
theorem inX2_narrow : Cond.instanceMethod mX2_narrow.1 ∈ lw_g := lw_g_in (t2_in (List.mem_of_getElem? (i := 110) rfl)) rfl
theorem seX2_narrow : Cond.selects mX2_narrow.1.cls mX2_narrow.1 mX2_narrow.1 ∈ lw_g := lw_g_in (sels_in (List.mem_of_getElem? (i := 15) rfl)) rfl
def mJ9_max_f86c9 : MD := (yJ9_max_f86c9, cJ9_max_f86c9, 4, (some .long), false)
theorem cdJ9_max_f86c9 : Cond.code mJ9_max_f86c9.1 mJ9_max_f86c9.2.1 mJ9_max_f86c9.2.2.1 mJ9_max_f86c9.2.2.2.1 ∈ lw_g := lw_g_in (t2_in (List.mem_of_getElem? (i := 114) rfl)) rfl
theorem stJ9_max_f86c9 : Cond.static mJ9_max_f86c9.1 ∈ lw_g := lw_g_in (t2_in (List.mem_of_getElem? (i := 113) rfl)) rfl
def mJ9_min_f86c9 : MD := (yJ9_min_f86c9, cJ9_min_f86c9, 4, (some .long), false)
theorem cdJ9_min_f86c9 : Cond.code mJ9_min_f86c9.1 mJ9_min_f86c9.2.1 mJ9_min_f86c9.2.2.1 mJ9_min_f86c9.2.2.2.1 ∈ lw_g := lw_g_in (t2_in (List.mem_of_getElem? (i := 117) rfl)) rfl
theorem stJ9_min_f86c9 : Cond.static mJ9_min_f86c9.1 ∈ lw_g := lw_g_in (t2_in (List.mem_of_getElem? (i := 116) rfl)) rfl
def mX2_width : MD := (yX2_width, cX2_width, 1, (some .long), false)
theorem okX2_width : MOk mX2_width 0 := ⟨by decide +kernel, lw_g_in (t2_in (List.mem_of_getElem? (i := 121) rfl)) rfl, lw_g_in (t1_in (List.mem_of_getElem? (i := 11) rfl)) rfl, ⟨by decide +kernel, by decide +kernel, by decide +kernel⟩, by decide +kernel, fun h => absurd h (by decide)⟩
theorem inX2_width : Cond.instanceMethod mX2_width.1 ∈ lw_g := lw_g_in (t2_in (List.mem_of_getElem? (i := 120) rfl)) rfl
theorem seX2_width : Cond.selects mX2_width.1.cls mX2_width.1 mX2_width.1 ∈ lw_g := lw_g_in (sels_in (List.mem_of_getElem? (i := 16) rfl)) rfl
def mX8_countCandidates : MD := (yX8_countCandidates, cX8_countCandidates, 2, none, false)
theorem okX8_countCandidates : MOk mX8_countCandidates 1 := ⟨by decide +kernel, lw_g_in (t2_in (List.mem_of_getElem? (i := 125) rfl)) rfl, lw_g_in (t1_in (List.mem_of_getElem? (i := 1) rfl)) rfl, ⟨by decide +kernel, by decide +kernel, by decide +kernel⟩, by decide +kernel, fun h => absurd h (by decide)⟩
theorem inX8_countCandidates : Cond.instanceMethod mX8_countCandidates.1 ∈ lw_g := lw_g_in (t2_in (List.mem_of_getElem? (i := 124) rfl)) rfl
theorem seX8_countCandidates : Cond.selects mX8_countCandidates.1.cls mX8_countCandidates.1 mX8_countCandidates.1 ∈ lw_g := lw_g_in (sels_in (List.mem_of_getElem? (i := 17) rfl)) rfl
def mX6_countThere : MD := (yX6_countThere, cX6_countThere, 11, (some .int), false)
theorem okX6_countThere : MOk mX6_countThere 4 := ⟨by decide +kernel, lw_g_in (t2_in (List.mem_of_getElem? (i := 129) rfl)) rfl, lw_g_in (t1_in (List.mem_of_getElem? (i := 2) rfl)) rfl, ⟨by decide +kernel, by decide +kernel, by decide +kernel⟩, by decide +kernel, fun h => absurd h (by decide)⟩
theorem inX6_countThere : Cond.instanceMethod mX6_countThere.1 ∈ lw_g := lw_g_in (t2_in (List.mem_of_getElem? (i := 128) rfl)) rfl
theorem seX6_countThere : Cond.selects mX6_countThere.1.cls mX6_countThere.1 mX6_countThere.1 ∈ lw_g := lw_g_in (sels_in (List.mem_of_getElem? (i := 18) rfl)) rfl
def mX0_isWithin : MD := (yX0_isWithin, cX0_isWithin, 6, (some .boolean), false)
theorem okX0_isWithin : MOk mX0_isWithin 3 := ⟨by decide +kernel, lw_g_in (t2_in (List.mem_of_getElem? (i := 133) rfl)) rfl, lw_g_in (t1_in (List.mem_of_getElem? (i := 9) rfl)) rfl, ⟨by decide +kernel, by decide +kernel, by decide +kernel⟩, by decide +kernel, fun h => absurd h (by decide)⟩
theorem inX0_isWithin : Cond.instanceMethod mX0_isWithin.1 ∈ lw_g := lw_g_in (t2_in (List.mem_of_getElem? (i := 132) rfl)) rfl
theorem seX0_isWithin : Cond.selects mX0_isWithin.1.cls mX0_isWithin.1 mX0_isWithin.1 ∈ lw_g := lw_g_in (sels_in (List.mem_of_getElem? (i := 19) rfl)) rfl
def mX8_fillResult : MD := (yX8_fillResult, cX8_fillResult, 5, none, false)
theorem okX8_fillResult : MOk mX8_fillResult 2 := ⟨by decide +kernel, lw_g_in (t2_in (List.mem_of_getElem? (i := 137) rfl)) rfl, lw_g_in (t1_in (List.mem_of_getElem? (i := 1) rfl)) rfl, ⟨by decide +kernel, by decide +kernel, by decide +kernel⟩, by decide +kernel, fun h => absurd h (by decide)⟩
theorem inX8_fillResult : Cond.instanceMethod mX8_fillResult.1 ∈ lw_g := lw_g_in (t2_in (List.mem_of_getElem? (i := 136) rfl)) rfl
theorem seX8_fillResult : Cond.selects mX8_fillResult.1.cls mX8_fillResult.1 mX8_fillResult.1 ∈ lw_g := lw_g_in (sels_in (List.mem_of_getElem? (i := 20) rfl)) rfl
def mX1_isTrueOf : MD := (yX1_isTrueOf, cX1_isTrueOf, 2, (some .boolean), false)
theorem okX1_isTrueOf : MOk mX1_isTrueOf 2 := ⟨by decide +kernel, lw_g_in (t2_in (List.mem_of_getElem? (i := 140) rfl)) rfl, lw_g_in (t1_in (List.mem_of_getElem? (i := 7) rfl)) rfl, ⟨by decide +kernel, by decide +kernel, by decide +kernel⟩, by decide +kernel, fun h => absurd h (by decide)⟩
theorem stX1_isTrueOf : Cond.static mX1_isTrueOf.1 ∈ lw_g := lw_g_in (t2_in (List.mem_of_getElem? (i := 139) rfl)) rfl
def mX1_numberOf : MD := (yX1_numberOf, cX1_numberOf, 2, (some .int), false)
theorem okX1_numberOf : MOk mX1_numberOf 2 := ⟨by decide +kernel, lw_g_in (t2_in (List.mem_of_getElem? (i := 143) rfl)) rfl, lw_g_in (t1_in (List.mem_of_getElem? (i := 7) rfl)) rfl, ⟨by decide +kernel, by decide +kernel, by decide +kernel⟩, by decide +kernel, fun h => absurd h (by decide)⟩
theorem stX1_numberOf : Cond.static mX1_numberOf.1 ∈ lw_g := lw_g_in (t2_in (List.mem_of_getElem? (i := 142) rfl)) rfl
def mX3_startsWith : MD := (yX3_startsWith, cX3_startsWith, 2, (some .boolean), false)
theorem okX3_startsWith : MOk mX3_startsWith 1 := ⟨by decide +kernel, lw_g_in (t2_in (List.mem_of_getElem? (i := 148) rfl)) rfl, lw_g_in (t1_in (List.mem_of_getElem? (i := 10) rfl)) rfl, ⟨by decide +kernel, by decide +kernel, by decide +kernel⟩, by decide +kernel, fun h => absurd h (by decide)⟩
theorem inX3_startsWith : Cond.instanceMethod mX3_startsWith.1 ∈ lw_g := lw_g_in (t2_in (List.mem_of_getElem? (i := 147) rfl)) rfl
theorem seX3_startsWith : Cond.selects mX3_startsWith.1.cls mX3_startsWith.1 mX3_startsWith.1 ∈ lw_g := lw_g_in (sels_in (List.mem_of_getElem? (i := 21) rfl)) rfl
def mX8_commit : MD := (yX8_commit, cX8_commit, 3, (some .int), false)
theorem okX8_commit : MOk mX8_commit 1 := ⟨by decide +kernel, lw_g_in (t2_in (List.mem_of_getElem? (i := 152) rfl)) rfl, lw_g_in (t1_in (List.mem_of_getElem? (i := 1) rfl)) rfl, ⟨by decide +kernel, by decide +kernel, by decide +kernel⟩, by decide +kernel, fun h => absurd h (by decide)⟩
theorem inX8_commit : Cond.instanceMethod mX8_commit.1 ∈ lw_g := lw_g_in (t2_in (List.mem_of_getElem? (i := 150) rfl)) rfl
theorem seX8_commit : Cond.selects mX8_commit.1.cls mX8_commit.1 mX8_commit.1 ∈ lw_g := lw_g_in (t2_in (List.mem_of_getElem? (i := 151) rfl)) rfl
def mX8_isTooLate : MD := (yX8_isTooLate, cX8_isTooLate, 3, (some .boolean), false)
theorem okX8_isTooLate : MOk mX8_isTooLate 1 := ⟨by decide +kernel, lw_g_in (t2_in (List.mem_of_getElem? (i := 156) rfl)) rfl, lw_g_in (t1_in (List.mem_of_getElem? (i := 1) rfl)) rfl, ⟨by decide +kernel, by decide +kernel, by decide +kernel⟩, by decide +kernel, fun h => absurd h (by decide)⟩
theorem inX8_isTooLate : Cond.instanceMethod mX8_isTooLate.1 ∈ lw_g := lw_g_in (t2_in (List.mem_of_getElem? (i := 155) rfl)) rfl
theorem seX8_isTooLate : Cond.selects mX8_isTooLate.1.cls mX8_isTooLate.1 mX8_isTooLate.1 ∈ lw_g := lw_g_in (sels_in (List.mem_of_getElem? (i := 22) rfl)) rfl
def mX6_lastStampOf : MD := (yX6_lastStampOf, cX6_lastStampOf, 3, (some .int), false)
theorem okX6_lastStampOf : MOk mX6_lastStampOf 1 := ⟨by decide +kernel, lw_g_in (t2_in (List.mem_of_getElem? (i := 160) rfl)) rfl, lw_g_in (t1_in (List.mem_of_getElem? (i := 2) rfl)) rfl, ⟨by decide +kernel, by decide +kernel, by decide +kernel⟩, by decide +kernel, fun h => absurd h (by decide)⟩
theorem inX6_lastStampOf : Cond.instanceMethod mX6_lastStampOf.1 ∈ lw_g := lw_g_in (t2_in (List.mem_of_getElem? (i := 159) rfl)) rfl
theorem seX6_lastStampOf : Cond.selects mX6_lastStampOf.1.cls mX6_lastStampOf.1 mX6_lastStampOf.1 ∈ lw_g := lw_g_in (sels_in (List.mem_of_getElem? (i := 23) rfl)) rfl
def mX8_batchSize : MD := (yX8_batchSize, cX8_batchSize, 4, (some .int), false)
theorem okX8_batchSize : MOk mX8_batchSize 1 := ⟨by decide +kernel, lw_g_in (t2_in (List.mem_of_getElem? (i := 165) rfl)) rfl, lw_g_in (t1_in (List.mem_of_getElem? (i := 1) rfl)) rfl, ⟨by decide +kernel, by decide +kernel, by decide +kernel⟩, by decide +kernel, fun h => absurd h (by decide)⟩
theorem inX8_batchSize : Cond.instanceMethod mX8_batchSize.1 ∈ lw_g := lw_g_in (t2_in (List.mem_of_getElem? (i := 164) rfl)) rfl
theorem seX8_batchSize : Cond.selects mX8_batchSize.1.cls mX8_batchSize.1 mX8_batchSize.1 ∈ lw_g := lw_g_in (sels_in (List.mem_of_getElem? (i := 24) rfl)) rfl
def mX8_countIndexEntries : MD := (yX8_countIndexEntries, cX8_countIndexEntries, 5, (some .int), false)
theorem okX8_countIndexEntries : MOk mX8_countIndexEntries 2 := ⟨by decide +kernel, lw_g_in (t2_in (List.mem_of_getElem? (i := 169) rfl)) rfl, lw_g_in (t1_in (List.mem_of_getElem? (i := 1) rfl)) rfl, ⟨by decide +kernel, by decide +kernel, by decide +kernel⟩, by decide +kernel, fun h => absurd h (by decide)⟩
theorem inX8_countIndexEntries : Cond.instanceMethod mX8_countIndexEntries.1 ∈ lw_g := lw_g_in (t2_in (List.mem_of_getElem? (i := 168) rfl)) rfl
theorem seX8_countIndexEntries : Cond.selects mX8_countIndexEntries.1.cls mX8_countIndexEntries.1 mX8_countIndexEntries.1 ∈ lw_g := lw_g_in (sels_in (List.mem_of_getElem? (i := 25) rfl)) rfl
def mX8_hasOwnValue : MD := (yX8_hasOwnValue, cX8_hasOwnValue, 4, (some .boolean), false)
theorem okX8_hasOwnValue : MOk mX8_hasOwnValue 3 := ⟨by decide +kernel, lw_g_in (t2_in (List.mem_of_getElem? (i := 173) rfl)) rfl, lw_g_in (t1_in (List.mem_of_getElem? (i := 1) rfl)) rfl, ⟨by decide +kernel, by decide +kernel, by decide +kernel⟩, by decide +kernel, fun h => absurd h (by decide)⟩
theorem inX8_hasOwnValue : Cond.instanceMethod mX8_hasOwnValue.1 ∈ lw_g := lw_g_in (t2_in (List.mem_of_getElem? (i := 172) rfl)) rfl
theorem seX8_hasOwnValue : Cond.selects mX8_hasOwnValue.1.cls mX8_hasOwnValue.1 mX8_hasOwnValue.1 ∈ lw_g := lw_g_in (sels_in (List.mem_of_getElem? (i := 26) rfl)) rfl
def mX8_valueIn : MD := (yX8_valueIn, cX8_valueIn, 3, (some .int), false)
theorem okX8_valueIn : MOk mX8_valueIn 2 := ⟨by decide +kernel, lw_g_in (t2_in (List.mem_of_getElem? (i := 177) rfl)) rfl, lw_g_in (t1_in (List.mem_of_getElem? (i := 1) rfl)) rfl, ⟨by decide +kernel, by decide +kernel, by decide +kernel⟩, by decide +kernel, fun h => absurd h (by decide)⟩
theorem inX8_valueIn : Cond.instanceMethod mX8_valueIn.1 ∈ lw_g := lw_g_in (t2_in (List.mem_of_getElem? (i := 176) rfl)) rfl
theorem seX8_valueIn : Cond.selects mX8_valueIn.1.cls mX8_valueIn.1 mX8_valueIn.1 ∈ lw_g := lw_g_in (sels_in (List.mem_of_getElem? (i := 27) rfl)) rfl
def mX6_hasRoomFor : MD := (yX6_hasRoomFor, cX6_hasRoomFor, 2, (some .boolean), false)
theorem okX6_hasRoomFor : MOk mX6_hasRoomFor 1 := ⟨by decide +kernel, lw_g_in (t2_in (List.mem_of_getElem? (i := 182) rfl)) rfl, lw_g_in (t1_in (List.mem_of_getElem? (i := 2) rfl)) rfl, ⟨by decide +kernel, by decide +kernel, by decide +kernel⟩, by decide +kernel, fun h => absurd h (by decide)⟩
theorem inX6_hasRoomFor : Cond.instanceMethod mX6_hasRoomFor.1 ∈ lw_g := lw_g_in (t2_in (List.mem_of_getElem? (i := 181) rfl)) rfl
theorem seX6_hasRoomFor : Cond.selects mX6_hasRoomFor.1.cls mX6_hasRoomFor.1 mX6_hasRoomFor.1 ∈ lw_g := lw_g_in (sels_in (List.mem_of_getElem? (i := 28) rfl)) rfl
def mX8_takeBatch : MD := (yX8_takeBatch, cX8_takeBatch, 6, none, false)
theorem okX8_takeBatch : MOk mX8_takeBatch 1 := ⟨by decide +kernel, lw_g_in (t2_in (List.mem_of_getElem? (i := 186) rfl)) rfl, lw_g_in (t1_in (List.mem_of_getElem? (i := 1) rfl)) rfl, ⟨by decide +kernel, by decide +kernel, by decide +kernel⟩, by decide +kernel, fun h => absurd h (by decide)⟩
theorem inX8_takeBatch : Cond.instanceMethod mX8_takeBatch.1 ∈ lw_g := lw_g_in (t2_in (List.mem_of_getElem? (i := 185) rfl)) rfl
theorem seX8_takeBatch : Cond.selects mX8_takeBatch.1.cls mX8_takeBatch.1 mX8_takeBatch.1 ∈ lw_g := lw_g_in (sels_in (List.mem_of_getElem? (i := 29) rfl)) rfl
def mX0_init : MD := (yX0_init, cX0_init, 6, none, true)
theorem okX0_init : MOk mX0_init 5 := ⟨by decide +kernel, lw_g_in (t2_in (List.mem_of_getElem? (i := 190) rfl)) rfl, lw_g_in (t1_in (List.mem_of_getElem? (i := 9) rfl)) rfl, ⟨by decide +kernel, by decide +kernel, by decide +kernel⟩, by decide +kernel, fun _ => rfl⟩
theorem inX0_init : Cond.instanceMethod mX0_init.1 ∈ lw_g := lw_g_in (t2_in (List.mem_of_getElem? (i := 189) rfl)) rfl
def mX6_add : MD := (yX6_add, cX6_add, 4, none, false)
theorem okX6_add : MOk mX6_add 1 := ⟨by decide +kernel, lw_g_in (t2_in (List.mem_of_getElem? (i := 230) rfl)) rfl, lw_g_in (t1_in (List.mem_of_getElem? (i := 2) rfl)) rfl, ⟨by decide +kernel, by decide +kernel, by decide +kernel⟩, by decide +kernel, fun h => absurd h (by decide)⟩
theorem inX6_add : Cond.instanceMethod mX6_add.1 ∈ lw_g := lw_g_in (t2_in (List.mem_of_getElem? (i := 229) rfl)) rfl
theorem seX6_add : Cond.selects mX6_add.1.cls mX6_add.1 mX6_add.1 ∈ lw_g := lw_g_in (sels_in (List.mem_of_getElem? (i := 30) rfl)) rfl
def mX8_addIndexEntries : MD := (yX8_addIndexEntries, cX8_addIndexEntries, 6, none, false)
theorem okX8_addIndexEntries : MOk mX8_addIndexEntries 4 := ⟨by decide +kernel, lw_g_in (t2_in (List.mem_of_getElem? (i := 235) rfl)) rfl, lw_g_in (t1_in (List.mem_of_getElem? (i := 1) rfl)) rfl, ⟨by decide +kernel, by decide +kernel, by decide +kernel⟩, by decide +kernel, fun h => absurd h (by decide)⟩
theorem inX8_addIndexEntries : Cond.instanceMethod mX8_addIndexEntries.1 ∈ lw_g := lw_g_in (t2_in (List.mem_of_getElem? (i := 234) rfl)) rfl
theorem seX8_addIndexEntries : Cond.selects mX8_addIndexEntries.1.cls mX8_addIndexEntries.1 mX8_addIndexEntries.1 ∈ lw_g := lw_g_in (sels_in (List.mem_of_getElem? (i := 31) rfl)) rfl
def mX8_flushAndMerge : MD := (yX8_flushAndMerge, cX8_flushAndMerge, 4, none, false)
theorem okX8_flushAndMerge : MOk mX8_flushAndMerge 0 := ⟨by decide +kernel, lw_g_in (t2_in (List.mem_of_getElem? (i := 239) rfl)) rfl, lw_g_in (t1_in (List.mem_of_getElem? (i := 1) rfl)) rfl, ⟨by decide +kernel, by decide +kernel, by decide +kernel⟩, by decide +kernel, fun h => absurd h (by decide)⟩
theorem inX8_flushAndMerge : Cond.instanceMethod mX8_flushAndMerge.1 ∈ lw_g := lw_g_in (t2_in (List.mem_of_getElem? (i := 238) rfl)) rfl
theorem seX8_flushAndMerge : Cond.selects mX8_flushAndMerge.1.cls mX8_flushAndMerge.1 mX8_flushAndMerge.1 ∈ lw_g := lw_g_in (sels_in (List.mem_of_getElem? (i := 32) rfl)) rfl
def mX6_writeMemoryOut : MD := (yX6_writeMemoryOut, cX6_writeMemoryOut, 5, (some .int), false)
theorem okX6_writeMemoryOut : MOk mX6_writeMemoryOut 0 := ⟨by decide +kernel, lw_g_in (t3_in (List.mem_of_getElem? (i := 3) rfl)) rfl, lw_g_in (t1_in (List.mem_of_getElem? (i := 2) rfl)) rfl, ⟨by decide +kernel, by decide +kernel, by decide +kernel⟩, by decide +kernel, fun h => absurd h (by decide)⟩
theorem inX6_writeMemoryOut : Cond.instanceMethod mX6_writeMemoryOut.1 ∈ lw_g := lw_g_in (t3_in (List.mem_of_getElem? (i := 2) rfl)) rfl
theorem seX6_writeMemoryOut : Cond.selects mX6_writeMemoryOut.1.cls mX6_writeMemoryOut.1 mX6_writeMemoryOut.1 ∈ lw_g := lw_g_in (sels_in (List.mem_of_getElem? (i := 33) rfl)) rfl
def mX6_newFile : MD := (yX6_newFile, cX6_newFile, 4, (some (.object "VersionedRows$SortedFile")), false)
theorem okX6_newFile : MOk mX6_newFile 2 := ⟨by decide +kernel, lw_g_in (t3_in (List.mem_of_getElem? (i := 7) rfl)) rfl, lw_g_in (t1_in (List.mem_of_getElem? (i := 2) rfl)) rfl, ⟨by decide +kernel, by decide +kernel, by decide +kernel⟩, by decide +kernel, fun h => absurd h (by decide)⟩
theorem inX6_newFile : Cond.instanceMethod mX6_newFile.1 ∈ lw_g := lw_g_in (t3_in (List.mem_of_getElem? (i := 6) rfl)) rfl
theorem seX6_newFile : Cond.selects mX6_newFile.1.cls mX6_newFile.1 mX6_newFile.1 ∈ lw_g := lw_g_in (sels_in (List.mem_of_getElem? (i := 34) rfl)) rfl
def mX5_init : MD := (yX5_init, cX5_init, 4, none, true)
theorem okX5_init : MOk mX5_init 3 := ⟨by decide +kernel, lw_g_in (t3_in (List.mem_of_getElem? (i := 12) rfl)) rfl, lw_g_in (t1_in (List.mem_of_getElem? (i := 13) rfl)) rfl, ⟨by decide +kernel, by decide +kernel, by decide +kernel⟩, by decide +kernel, fun _ => rfl⟩
theorem inX5_init : Cond.instanceMethod mX5_init.1 ∈ lw_g := lw_g_in (t3_in (List.mem_of_getElem? (i := 11) rfl)) rfl
def mJx4a65c_add_9ea2d : MD := (yJx4a65c_add_9ea2d, cJx4a65c_add_9ea2d, 2, (some .boolean), false)
theorem okJx4a65c_add_9ea2d : MOk mJx4a65c_add_9ea2d 1 := ⟨by decide +kernel, lw_g_in (t3_in (List.mem_of_getElem? (i := 38) rfl)) rfl, lw_g_in (t1_in (List.mem_of_getElem? (i := 5) rfl)) rfl, ⟨by decide +kernel, by decide +kernel, by decide +kernel⟩, by decide +kernel, fun h => absurd h (by decide)⟩
theorem inJx4a65c_add_9ea2d : Cond.instanceMethod mJx4a65c_add_9ea2d.1 ∈ lw_g := lw_g_in (t3_in (List.mem_of_getElem? (i := 36) rfl)) rfl
theorem seJx4a65c_add_9ea2d : Cond.selects mJx4a65c_add_9ea2d.1.cls mJx4a65c_add_9ea2d.1 mJx4a65c_add_9ea2d.1 ∈ lw_g := lw_g_in (t3_in (List.mem_of_getElem? (i := 37) rfl)) rfl
def mJx4a65c_add_72be8 : MD := (yJx4a65c_add_72be8, cJx4a65c_add_72be8, 4, none, false)
theorem okJx4a65c_add_72be8 : MOk mJx4a65c_add_72be8 3 := ⟨by decide +kernel, lw_g_in (t3_in (List.mem_of_getElem? (i := 42) rfl)) rfl, lw_g_in (t1_in (List.mem_of_getElem? (i := 5) rfl)) rfl, ⟨by decide +kernel, by decide +kernel, by decide +kernel⟩, by decide +kernel, fun h => absurd h (by decide)⟩
theorem inJx4a65c_add_72be8 : Cond.instanceMethod mJx4a65c_add_72be8.1 ∈ lw_g := lw_g_in (t3_in (List.mem_of_getElem? (i := 41) rfl)) rfl
theorem seJx4a65c_add_72be8 : Cond.selects mJx4a65c_add_72be8.1.cls mJx4a65c_add_72be8.1 mJx4a65c_add_72be8.1 ∈ lw_g := lw_g_in (sels_in (List.mem_of_getElem? (i := 35) rfl)) rfl
def mJx4a65c_grow_d5877 : MD := (yJx4a65c_grow_d5877, cJx4a65c_grow_d5877, 1, (some (.array (.object "java/lang/Object"))), false)
theorem okJx4a65c_grow_d5877 : MOk mJx4a65c_grow_d5877 0 := ⟨by decide +kernel, lw_g_in (t3_in (List.mem_of_getElem? (i := 46) rfl)) rfl, lw_g_in (t1_in (List.mem_of_getElem? (i := 5) rfl)) rfl, ⟨by decide +kernel, by decide +kernel, by decide +kernel⟩, by decide +kernel, fun h => absurd h (by decide)⟩
theorem inJx4a65c_grow_d5877 : Cond.instanceMethod mJx4a65c_grow_d5877.1 ∈ lw_g := lw_g_in (t3_in (List.mem_of_getElem? (i := 45) rfl)) rfl
theorem seJx4a65c_grow_d5877 : Cond.selects mJx4a65c_grow_d5877.1.cls mJx4a65c_grow_d5877.1 mJx4a65c_grow_d5877.1 ∈ lw_g := lw_g_in (sels_in (List.mem_of_getElem? (i := 36) rfl)) rfl
def mJx4a65c_grow_92f84 : MD := (yJx4a65c_grow_92f84, cJx4a65c_grow_92f84, 4, (some (.array (.object "java/lang/Object"))), false)
theorem okJx4a65c_grow_92f84 : MOk mJx4a65c_grow_92f84 1 := ⟨by decide +kernel, lw_g_in (t3_in (List.mem_of_getElem? (i := 50) rfl)) rfl, lw_g_in (t1_in (List.mem_of_getElem? (i := 5) rfl)) rfl, ⟨by decide +kernel, by decide +kernel, by decide +kernel⟩, by decide +kernel, fun h => absurd h (by decide)⟩
theorem inJx4a65c_grow_92f84 : Cond.instanceMethod mJx4a65c_grow_92f84.1 ∈ lw_g := lw_g_in (t3_in (List.mem_of_getElem? (i := 49) rfl)) rfl
theorem seJx4a65c_grow_92f84 : Cond.selects mJx4a65c_grow_92f84.1.cls mJx4a65c_grow_92f84.1 mJx4a65c_grow_92f84.1 ∈ lw_g := lw_g_in (sels_in (List.mem_of_getElem? (i := 37) rfl)) rfl
def mJ8_newLength_cabcc : MD := (yJ8_newLength_cabcc, cJ8_newLength_cabcc, 4, (some .int), false)
theorem okJ8_newLength_cabcc : MOk mJ8_newLength_cabcc 3 := ⟨by decide +kernel, lw_g_in (t3_in (List.mem_of_getElem? (i := 53) rfl)) rfl, lw_g_in (t1_in (List.mem_of_getElem? (i := 14) rfl)) rfl, ⟨by decide +kernel, by decide +kernel, by decide +kernel⟩, by decide +kernel, fun h => absurd h (by decide)⟩
theorem stJ8_newLength_cabcc : Cond.static mJ8_newLength_cabcc.1 ∈ lw_g := lw_g_in (t3_in (List.mem_of_getElem? (i := 52) rfl)) rfl
def mJ9_max_7cf53 : MD := (yJ9_max_7cf53, cJ9_max_7cf53, 2, (some .int), false)
theorem cdJ9_max_7cf53 : Cond.code mJ9_max_7cf53.1 mJ9_max_7cf53.2.1 mJ9_max_7cf53.2.2.1 mJ9_max_7cf53.2.2.2.1 ∈ lw_g := lw_g_in (t3_in (List.mem_of_getElem? (i := 56) rfl)) rfl
theorem stJ9_max_7cf53 : Cond.static mJ9_max_7cf53.1 ∈ lw_g := lw_g_in (t3_in (List.mem_of_getElem? (i := 55) rfl)) rfl
def mJ8_hugeLength_7cf53 : MD := (yJ8_hugeLength_7cf53, cJ8_hugeLength_7cf53, 3, (some .int), false)
theorem okJ8_hugeLength_7cf53 : MOk mJ8_hugeLength_7cf53 2 := ⟨by decide +kernel, lw_g_in (t3_in (List.mem_of_getElem? (i := 60) rfl)) rfl, lw_g_in (t1_in (List.mem_of_getElem? (i := 14) rfl)) rfl, ⟨by decide +kernel, by decide +kernel, by decide +kernel⟩, by decide +kernel, fun h => absurd h (by decide)⟩
theorem stJ8_hugeLength_7cf53 : Cond.static mJ8_hugeLength_7cf53.1 ∈ lw_g := lw_g_in (t3_in (List.mem_of_getElem? (i := 59) rfl)) rfl
def mJ7_copyOf_1904c : MD := (yJ7_copyOf_1904c, cJ7_copyOf_1904c, 2, (some (.array (.object "java/lang/Object"))), false)
theorem okJ7_copyOf_1904c : MOk mJ7_copyOf_1904c 2 := ⟨by decide +kernel, lw_g_in (t3_in (List.mem_of_getElem? (i := 63) rfl)) rfl, lw_g_in (t1_in (List.mem_of_getElem? (i := 15) rfl)) rfl, ⟨by decide +kernel, by decide +kernel, by decide +kernel⟩, by decide +kernel, fun h => absurd h (by decide)⟩
theorem stJ7_copyOf_1904c : Cond.static mJ7_copyOf_1904c.1 ∈ lw_g := lw_g_in (t3_in (List.mem_of_getElem? (i := 62) rfl)) rfl
def mJ7_copyOf_6403c : MD := (yJ7_copyOf_6403c, cJ7_copyOf_6403c, 4, (some (.array (.object "java/lang/Object"))), false)
theorem okJ7_copyOf_6403c : MOk mJ7_copyOf_6403c 3 := ⟨by decide +kernel, lw_g_in (t3_in (List.mem_of_getElem? (i := 81) rfl)) rfl, lw_g_in (t1_in (List.mem_of_getElem? (i := 15) rfl)) rfl, ⟨by decide +kernel, by decide +kernel, by decide +kernel⟩, by decide +kernel, fun h => absurd h (by decide)⟩
theorem stJ7_copyOf_6403c : Cond.static mJ7_copyOf_6403c.1 ∈ lw_g := lw_g_in (t3_in (List.mem_of_getElem? (i := 80) rfl)) rfl
def mJ9_min_7cf53 : MD := (yJ9_min_7cf53, cJ9_min_7cf53, 2, (some .int), false)
theorem cdJ9_min_7cf53 : Cond.code mJ9_min_7cf53.1 mJ9_min_7cf53.2.1 mJ9_min_7cf53.2.2.1 mJ9_min_7cf53.2.2.2.1 ∈ lw_g := lw_g_in (t3_in (List.mem_of_getElem? (i := 87) rfl)) rfl
theorem stJ9_min_7cf53 : Cond.static mJ9_min_7cf53.1 ∈ lw_g := lw_g_in (t3_in (List.mem_of_getElem? (i := 86) rfl)) rfl
def mX5_append : MD := (yX5_append, cX5_append, 2, none, false)
theorem okX5_append : MOk mX5_append 1 := ⟨by decide +kernel, lw_g_in (t3_in (List.mem_of_getElem? (i := 96) rfl)) rfl, lw_g_in (t1_in (List.mem_of_getElem? (i := 13) rfl)) rfl, ⟨by decide +kernel, by decide +kernel, by decide +kernel⟩, by decide +kernel, fun h => absurd h (by decide)⟩
theorem inX5_append : Cond.instanceMethod mX5_append.1 ∈ lw_g := lw_g_in (t3_in (List.mem_of_getElem? (i := 95) rfl)) rfl
theorem seX5_append : Cond.selects mX5_append.1.cls mX5_append.1 mX5_append.1 ∈ lw_g := lw_g_in (sels_in (List.mem_of_getElem? (i := 38) rfl)) rfl
def mX8_horizon : MD := (yX8_horizon, cX8_horizon, 3, (some .int), false)
theorem okX8_horizon : MOk mX8_horizon 0 := ⟨by decide +kernel, lw_g_in (t3_in (List.mem_of_getElem? (i := 100) rfl)) rfl, lw_g_in (t1_in (List.mem_of_getElem? (i := 1) rfl)) rfl, ⟨by decide +kernel, by decide +kernel, by decide +kernel⟩, by decide +kernel, fun h => absurd h (by decide)⟩
theorem inX8_horizon : Cond.instanceMethod mX8_horizon.1 ∈ lw_g := lw_g_in (t3_in (List.mem_of_getElem? (i := 99) rfl)) rfl
theorem seX8_horizon : Cond.selects mX8_horizon.1.cls mX8_horizon.1 mX8_horizon.1 ∈ lw_g := lw_g_in (sels_in (List.mem_of_getElem? (i := 39) rfl)) rfl
def mX6_overfullLevel : MD := (yX6_overfullLevel, cX6_overfullLevel, 1, (some .int), false)
theorem okX6_overfullLevel : MOk mX6_overfullLevel 0 := ⟨by decide +kernel, lw_g_in (t3_in (List.mem_of_getElem? (i := 106) rfl)) rfl, lw_g_in (t1_in (List.mem_of_getElem? (i := 2) rfl)) rfl, ⟨by decide +kernel, by decide +kernel, by decide +kernel⟩, by decide +kernel, fun h => absurd h (by decide)⟩
theorem inX6_overfullLevel : Cond.instanceMethod mX6_overfullLevel.1 ∈ lw_g := lw_g_in (t3_in (List.mem_of_getElem? (i := 105) rfl)) rfl
theorem seX6_overfullLevel : Cond.selects mX6_overfullLevel.1.cls mX6_overfullLevel.1 mX6_overfullLevel.1 ∈ lw_g := lw_g_in (sels_in (List.mem_of_getElem? (i := 40) rfl)) rfl
def mX6_countFiles : MD := (yX6_countFiles, cX6_countFiles, 4, (some .int), false)
theorem okX6_countFiles : MOk mX6_countFiles 1 := ⟨by decide +kernel, lw_g_in (t3_in (List.mem_of_getElem? (i := 110) rfl)) rfl, lw_g_in (t1_in (List.mem_of_getElem? (i := 2) rfl)) rfl, ⟨by decide +kernel, by decide +kernel, by decide +kernel⟩, by decide +kernel, fun h => absurd h (by decide)⟩
theorem inX6_countFiles : Cond.instanceMethod mX6_countFiles.1 ∈ lw_g := lw_g_in (t3_in (List.mem_of_getElem? (i := 109) rfl)) rfl
theorem seX6_countFiles : Cond.selects mX6_countFiles.1.cls mX6_countFiles.1 mX6_countFiles.1 ∈ lw_g := lw_g_in (sels_in (List.mem_of_getElem? (i := 41) rfl)) rfl
def mJx4a65c_size_8abf5 : MD := (yJx4a65c_size_8abf5, cJx4a65c_size_8abf5, 1, (some .int), false)
theorem okJx4a65c_size_8abf5 : MOk mJx4a65c_size_8abf5 0 := ⟨by decide +kernel, lw_g_in (t3_in (List.mem_of_getElem? (i := 114) rfl)) rfl, lw_g_in (t1_in (List.mem_of_getElem? (i := 5) rfl)) rfl, ⟨by decide +kernel, by decide +kernel, by decide +kernel⟩, by decide +kernel, fun h => absurd h (by decide)⟩
theorem inJx4a65c_size_8abf5 : Cond.instanceMethod mJx4a65c_size_8abf5.1 ∈ lw_g := lw_g_in (t3_in (List.mem_of_getElem? (i := 112) rfl)) rfl
theorem seJx4a65c_size_8abf5 : Cond.selects mJx4a65c_size_8abf5.1.cls mJx4a65c_size_8abf5.1 mJx4a65c_size_8abf5.1 ∈ lw_g := lw_g_in (t3_in (List.mem_of_getElem? (i := 113) rfl)) rfl
def mJx4a65c_get_915e3 : MD := (yJx4a65c_get_915e3, cJx4a65c_get_915e3, 2, (some (.object "java/lang/Object")), false)
theorem okJx4a65c_get_915e3 : MOk mJx4a65c_get_915e3 1 := ⟨by decide +kernel, lw_g_in (t3_in (List.mem_of_getElem? (i := 118) rfl)) rfl, lw_g_in (t1_in (List.mem_of_getElem? (i := 5) rfl)) rfl, ⟨by decide +kernel, by decide +kernel, by decide +kernel⟩, by decide +kernel, fun h => absurd h (by decide)⟩
theorem inJx4a65c_get_915e3 : Cond.instanceMethod mJx4a65c_get_915e3.1 ∈ lw_g := lw_g_in (t3_in (List.mem_of_getElem? (i := 116) rfl)) rfl
theorem seJx4a65c_get_915e3 : Cond.selects mJx4a65c_get_915e3.1.cls mJx4a65c_get_915e3.1 mJx4a65c_get_915e3.1 ∈ lw_g := lw_g_in (t3_in (List.mem_of_getElem? (i := 117) rfl)) rfl
def mJ15_checkIndex_7cf53 : MD := (yJ15_checkIndex_7cf53, cJ15_checkIndex_7cf53, 2, (some .int), false)
theorem okJ15_checkIndex_7cf53 : MOk mJ15_checkIndex_7cf53 2 := ⟨by decide +kernel, lw_g_in (t3_in (List.mem_of_getElem? (i := 121) rfl)) rfl, lw_g_in (t1_in (List.mem_of_getElem? (i := 17) rfl)) rfl, ⟨by decide +kernel, by decide +kernel, by decide +kernel⟩, by decide +kernel, fun h => absurd h (by decide)⟩
theorem stJ15_checkIndex_7cf53 : Cond.static mJ15_checkIndex_7cf53.1 ∈ lw_g := lw_g_in (t3_in (List.mem_of_getElem? (i := 120) rfl)) rfl
def mJ3_checkIndex_8e157 : MD := (yJ3_checkIndex_8e157, cJ3_checkIndex_8e157, 3, (some .int), false)
theorem okJ3_checkIndex_8e157 : MOk mJ3_checkIndex_8e157 3 := ⟨by decide +kernel, lw_g_in (t3_in (List.mem_of_getElem? (i := 124) rfl)) rfl, lw_g_in (t1_in (List.mem_of_getElem? (i := 18) rfl)) rfl, ⟨by decide +kernel, by decide +kernel, by decide +kernel⟩, by decide +kernel, fun h => absurd h (by decide)⟩
theorem stJ3_checkIndex_8e157 : Cond.static mJ3_checkIndex_8e157.1 ∈ lw_g := lw_g_in (t3_in (List.mem_of_getElem? (i := 123) rfl)) rfl
def mJx4a65c_elementData_915e3 : MD := (yJx4a65c_elementData_915e3, cJx4a65c_elementData_915e3, 2, (some (.object "java/lang/Object")), false)
theorem okJx4a65c_elementData_915e3 : MOk mJx4a65c_elementData_915e3 1 := ⟨by decide +kernel, lw_g_in (t3_in (List.mem_of_getElem? (i := 128) rfl)) rfl, lw_g_in (t1_in (List.mem_of_getElem? (i := 5) rfl)) rfl, ⟨by decide +kernel, by decide +kernel, by decide +kernel⟩, by decide +kernel, fun h => absurd h (by decide)⟩
theorem inJx4a65c_elementData_915e3 : Cond.instanceMethod mJx4a65c_elementData_915e3.1 ∈ lw_g := lw_g_in (t3_in (List.mem_of_getElem? (i := 126) rfl)) rfl
theorem seJx4a65c_elementData_915e3 : Cond.selects mJx4a65c_elementData_915e3.1.cls mJx4a65c_elementData_915e3.1 mJx4a65c_elementData_915e3.1 ∈ lw_g := lw_g_in (t3_in (List.mem_of_getElem? (i := 127) rfl)) rfl
def mX6_mergeDown : MD := (yX6_mergeDown, cX6_mergeDown, 4, (some .int), false)
theorem okX6_mergeDown : MOk mX6_mergeDown 2 := ⟨by decide +kernel, lw_g_in (t3_in (List.mem_of_getElem? (i := 132) rfl)) rfl, lw_g_in (t1_in (List.mem_of_getElem? (i := 2) rfl)) rfl, ⟨by decide +kernel, by decide +kernel, by decide +kernel⟩, by decide +kernel, fun h => absurd h (by decide)⟩
theorem inX6_mergeDown : Cond.instanceMethod mX6_mergeDown.1 ∈ lw_g := lw_g_in (t3_in (List.mem_of_getElem? (i := 131) rfl)) rfl
theorem seX6_mergeDown : Cond.selects mX6_mergeDown.1.cls mX6_mergeDown.1 mX6_mergeDown.1 ∈ lw_g := lw_g_in (sels_in (List.mem_of_getElem? (i := 42) rfl)) rfl
def mX6_fileOn : MD := (yX6_fileOn, cX6_fileOn, 6, (some (.object "VersionedRows$SortedFile")), false)
theorem okX6_fileOn : MOk mX6_fileOn 2 := ⟨by decide +kernel, lw_g_in (t3_in (List.mem_of_getElem? (i := 136) rfl)) rfl, lw_g_in (t1_in (List.mem_of_getElem? (i := 2) rfl)) rfl, ⟨by decide +kernel, by decide +kernel, by decide +kernel⟩, by decide +kernel, fun h => absurd h (by decide)⟩
theorem inX6_fileOn : Cond.instanceMethod mX6_fileOn.1 ∈ lw_g := lw_g_in (t3_in (List.mem_of_getElem? (i := 135) rfl)) rfl
theorem seX6_fileOn : Cond.selects mX6_fileOn.1.cls mX6_fileOn.1 mX6_fileOn.1 ∈ lw_g := lw_g_in (sels_in (List.mem_of_getElem? (i := 43) rfl)) rfl
def mX6_retire : MD := (yX6_retire, cX6_retire, 4, none, false)
theorem okX6_retire : MOk mX6_retire 1 := ⟨by decide +kernel, lw_g_in (t3_in (List.mem_of_getElem? (i := 140) rfl)) rfl, lw_g_in (t1_in (List.mem_of_getElem? (i := 2) rfl)) rfl, ⟨by decide +kernel, by decide +kernel, by decide +kernel⟩, by decide +kernel, fun h => absurd h (by decide)⟩
theorem inX6_retire : Cond.instanceMethod mX6_retire.1 ∈ lw_g := lw_g_in (t3_in (List.mem_of_getElem? (i := 139) rfl)) rfl
theorem seX6_retire : Cond.selects mX6_retire.1.cls mX6_retire.1 mX6_retire.1 ∈ lw_g := lw_g_in (sels_in (List.mem_of_getElem? (i := 44) rfl)) rfl
def mX5_meets : MD := (yX5_meets, cX5_meets, 2, (some .boolean), false)
theorem okX5_meets : MOk mX5_meets 1 := ⟨by decide +kernel, lw_g_in (t3_in (List.mem_of_getElem? (i := 144) rfl)) rfl, lw_g_in (t1_in (List.mem_of_getElem? (i := 13) rfl)) rfl, ⟨by decide +kernel, by decide +kernel, by decide +kernel⟩, by decide +kernel, fun h => absurd h (by decide)⟩
theorem inX5_meets : Cond.instanceMethod mX5_meets.1 ∈ lw_g := lw_g_in (t3_in (List.mem_of_getElem? (i := 143) rfl)) rfl
theorem seX5_meets : Cond.selects mX5_meets.1.cls mX5_meets.1 mX5_meets.1 ∈ lw_g := lw_g_in (sels_in (List.mem_of_getElem? (i := 45) rfl)) rfl
def mJx4a65c_remove_915e3 : MD := (yJx4a65c_remove_915e3, cJx4a65c_remove_915e3, 4, (some (.object "java/lang/Object")), false)
theorem okJx4a65c_remove_915e3 : MOk mJx4a65c_remove_915e3 1 := ⟨by decide +kernel, lw_g_in (t3_in (List.mem_of_getElem? (i := 148) rfl)) rfl, lw_g_in (t1_in (List.mem_of_getElem? (i := 5) rfl)) rfl, ⟨by decide +kernel, by decide +kernel, by decide +kernel⟩, by decide +kernel, fun h => absurd h (by decide)⟩
theorem inJx4a65c_remove_915e3 : Cond.instanceMethod mJx4a65c_remove_915e3.1 ∈ lw_g := lw_g_in (t3_in (List.mem_of_getElem? (i := 146) rfl)) rfl
theorem seJx4a65c_remove_915e3 : Cond.selects mJx4a65c_remove_915e3.1.cls mJx4a65c_remove_915e3.1 mJx4a65c_remove_915e3.1 ∈ lw_g := lw_g_in (t3_in (List.mem_of_getElem? (i := 147) rfl)) rfl
def mJx4a65c_fastRemove_b59b0 : MD := (yJx4a65c_fastRemove_b59b0, cJx4a65c_fastRemove_b59b0, 4, none, false)
theorem okJx4a65c_fastRemove_b59b0 : MOk mJx4a65c_fastRemove_b59b0 2 := ⟨by decide +kernel, lw_g_in (t3_in (List.mem_of_getElem? (i := 152) rfl)) rfl, lw_g_in (t1_in (List.mem_of_getElem? (i := 5) rfl)) rfl, ⟨by decide +kernel, by decide +kernel, by decide +kernel⟩, by decide +kernel, fun h => absurd h (by decide)⟩
theorem inJx4a65c_fastRemove_b59b0 : Cond.instanceMethod mJx4a65c_fastRemove_b59b0.1 ∈ lw_g := lw_g_in (t3_in (List.mem_of_getElem? (i := 151) rfl)) rfl
theorem seJx4a65c_fastRemove_b59b0 : Cond.selects mJx4a65c_fastRemove_b59b0.1.cls mJx4a65c_fastRemove_b59b0.1 mJx4a65c_fastRemove_b59b0.1 ∈ lw_g := lw_g_in (sels_in (List.mem_of_getElem? (i := 46) rfl)) rfl
def mX6_moveRetired : MD := (yX6_moveRetired, cX6_moveRetired, 8, (some .int), false)
theorem okX6_moveRetired : MOk mX6_moveRetired 2 := ⟨by decide +kernel, lw_g_in (t3_in (List.mem_of_getElem? (i := 157) rfl)) rfl, lw_g_in (t1_in (List.mem_of_getElem? (i := 2) rfl)) rfl, ⟨by decide +kernel, by decide +kernel, by decide +kernel⟩, by decide +kernel, fun h => absurd h (by decide)⟩
theorem inX6_moveRetired : Cond.instanceMethod mX6_moveRetired.1 ∈ lw_g := lw_g_in (t3_in (List.mem_of_getElem? (i := 156) rfl)) rfl
theorem seX6_moveRetired : Cond.selects mX6_moveRetired.1.cls mX6_moveRetired.1 mX6_moveRetired.1 ∈ lw_g := lw_g_in (sels_in (List.mem_of_getElem? (i := 47) rfl)) rfl
def mX4_init : MD := (yX4_init, cX4_init, 3, none, true)
theorem okX4_init : MOk mX4_init 2 := ⟨by decide +kernel, lw_g_in (t3_in (List.mem_of_getElem? (i := 162) rfl)) rfl, lw_g_in (t1_in (List.mem_of_getElem? (i := 19) rfl)) rfl, ⟨by decide +kernel, by decide +kernel, by decide +kernel⟩, by decide +kernel, fun _ => rfl⟩
theorem inX4_init : Cond.instanceMethod mX4_init.1 ∈ lw_g := lw_g_in (t3_in (List.mem_of_getElem? (i := 161) rfl)) rfl
def mX0_isInRetiredFile : MD := (yX0_isInRetiredFile, cX0_isInRetiredFile, 1, (some .boolean), false)
theorem okX0_isInRetiredFile : MOk mX0_isInRetiredFile 0 := ⟨by decide +kernel, lw_g_in (t3_in (List.mem_of_getElem? (i := 180) rfl)) rfl, lw_g_in (t1_in (List.mem_of_getElem? (i := 9) rfl)) rfl, ⟨by decide +kernel, by decide +kernel, by decide +kernel⟩, by decide +kernel, fun h => absurd h (by decide)⟩
theorem inX0_isInRetiredFile : Cond.instanceMethod mX0_isInRetiredFile.1 ∈ lw_g := lw_g_in (t3_in (List.mem_of_getElem? (i := 179) rfl)) rfl
theorem seX0_isInRetiredFile : Cond.selects mX0_isInRetiredFile.1.cls mX0_isInRetiredFile.1 mX0_isInRetiredFile.1 ∈ lw_g := lw_g_in (sels_in (List.mem_of_getElem? (i := 48) rfl)) rfl
def mX4_keeps : MD := (yX4_keeps, cX4_keeps, 2, (some .boolean), false)
theorem okX4_keeps : MOk mX4_keeps 1 := ⟨by decide +kernel, lw_g_in (t3_in (List.mem_of_getElem? (i := 184) rfl)) rfl, lw_g_in (t1_in (List.mem_of_getElem? (i := 19) rfl)) rfl, ⟨by decide +kernel, by decide +kernel, by decide +kernel⟩, by decide +kernel, fun h => absurd h (by decide)⟩
theorem inX4_keeps : Cond.instanceMethod mX4_keeps.1 ∈ lw_g := lw_g_in (t3_in (List.mem_of_getElem? (i := 183) rfl)) rfl
theorem seX4_keeps : Cond.selects mX4_keeps.1.cls mX4_keeps.1 mX4_keeps.1 ∈ lw_g := lw_g_in (sels_in (List.mem_of_getElem? (i := 49) rfl)) rfl
def mX5_isFullBefore : MD := (yX5_isFullBefore, cX5_isFullBefore, 2, (some .boolean), false)
theorem okX5_isFullBefore : MOk mX5_isFullBefore 1 := ⟨by decide +kernel, lw_g_in (t3_in (List.mem_of_getElem? (i := 188) rfl)) rfl, lw_g_in (t1_in (List.mem_of_getElem? (i := 13) rfl)) rfl, ⟨by decide +kernel, by decide +kernel, by decide +kernel⟩, by decide +kernel, fun h => absurd h (by decide)⟩
theorem inX5_isFullBefore : Cond.instanceMethod mX5_isFullBefore.1 ∈ lw_g := lw_g_in (t3_in (List.mem_of_getElem? (i := 187) rfl)) rfl
theorem seX5_isFullBefore : Cond.selects mX5_isFullBefore.1.cls mX5_isFullBefore.1 mX5_isFullBefore.1 ∈ lw_g := lw_g_in (sels_in (List.mem_of_getElem? (i := 50) rfl)) rfl
def mX8_tear : MD := (yX8_tear, cX8_tear, 6, (some .int), false)
theorem okX8_tear : MOk mX8_tear 2 := ⟨by decide +kernel, lw_g_in (t3_in (List.mem_of_getElem? (i := 192) rfl)) rfl, lw_g_in (t1_in (List.mem_of_getElem? (i := 1) rfl)) rfl, ⟨by decide +kernel, by decide +kernel, by decide +kernel⟩, by decide +kernel, fun h => absurd h (by decide)⟩
theorem inX8_tear : Cond.instanceMethod mX8_tear.1 ∈ lw_g := lw_g_in (t3_in (List.mem_of_getElem? (i := 190) rfl)) rfl
theorem seX8_tear : Cond.selects mX8_tear.1.cls mX8_tear.1 mX8_tear.1 ∈ lw_g := lw_g_in (t3_in (List.mem_of_getElem? (i := 191) rfl)) rfl
def mX8_loseOpenOnes : MD := (yX8_loseOpenOnes, cX8_loseOpenOnes, 3, (some .int), false)
theorem okX8_loseOpenOnes : MOk mX8_loseOpenOnes 0 := ⟨by decide +kernel, lw_g_in (t3_in (List.mem_of_getElem? (i := 196) rfl)) rfl, lw_g_in (t1_in (List.mem_of_getElem? (i := 1) rfl)) rfl, ⟨by decide +kernel, by decide +kernel, by decide +kernel⟩, by decide +kernel, fun h => absurd h (by decide)⟩
theorem inX8_loseOpenOnes : Cond.instanceMethod mX8_loseOpenOnes.1 ∈ lw_g := lw_g_in (t3_in (List.mem_of_getElem? (i := 195) rfl)) rfl
theorem seX8_loseOpenOnes : Cond.selects mX8_loseOpenOnes.1.cls mX8_loseOpenOnes.1 mX8_loseOpenOnes.1 ∈ lw_g := lw_g_in (sels_in (List.mem_of_getElem? (i := 51) rfl)) rfl
def mX8_abort : MD := (yX8_abort, cX8_abort, 3, (some .boolean), false)
theorem okX8_abort : MOk mX8_abort 1 := ⟨by decide +kernel, lw_g_in (t3_in (List.mem_of_getElem? (i := 200) rfl)) rfl, lw_g_in (t1_in (List.mem_of_getElem? (i := 1) rfl)) rfl, ⟨by decide +kernel, by decide +kernel, by decide +kernel⟩, by decide +kernel, fun h => absurd h (by decide)⟩
theorem inX8_abort : Cond.instanceMethod mX8_abort.1 ∈ lw_g := lw_g_in (t3_in (List.mem_of_getElem? (i := 198) rfl)) rfl
theorem seX8_abort : Cond.selects mX8_abort.1.cls mX8_abort.1 mX8_abort.1 ∈ lw_g := lw_g_in (t3_in (List.mem_of_getElem? (i := 199) rfl)) rfl
def mX8_flush : MD := (yX8_flush, cX8_flush, 1, (some .int), false)
theorem okX8_flush : MOk mX8_flush 0 := ⟨by decide +kernel, lw_g_in (t3_in (List.mem_of_getElem? (i := 204) rfl)) rfl, lw_g_in (t1_in (List.mem_of_getElem? (i := 1) rfl)) rfl, ⟨by decide +kernel, by decide +kernel, by decide +kernel⟩, by decide +kernel, fun h => absurd h (by decide)⟩
theorem inX8_flush : Cond.instanceMethod mX8_flush.1 ∈ lw_g := lw_g_in (t3_in (List.mem_of_getElem? (i := 202) rfl)) rfl
theorem seX8_flush : Cond.selects mX8_flush.1.cls mX8_flush.1 mX8_flush.1 ∈ lw_g := lw_g_in (t3_in (List.mem_of_getElem? (i := 203) rfl)) rfl
def mX8_compact : MD := (yX8_compact, cX8_compact, 2, (some .int), false)
theorem okX8_compact : MOk mX8_compact 0 := ⟨by decide +kernel, lw_g_in (t3_in (List.mem_of_getElem? (i := 208) rfl)) rfl, lw_g_in (t1_in (List.mem_of_getElem? (i := 1) rfl)) rfl, ⟨by decide +kernel, by decide +kernel, by decide +kernel⟩, by decide +kernel, fun h => absurd h (by decide)⟩
theorem inX8_compact : Cond.instanceMethod mX8_compact.1 ∈ lw_g := lw_g_in (t3_in (List.mem_of_getElem? (i := 206) rfl)) rfl
theorem seX8_compact : Cond.selects mX8_compact.1.cls mX8_compact.1 mX8_compact.1 ∈ lw_g := lw_g_in (t3_in (List.mem_of_getElem? (i := 207) rfl)) rfl
def mX8_crash : MD := (yX8_crash, cX8_crash, 1, (some .int), false)
theorem okX8_crash : MOk mX8_crash 0 := ⟨by decide +kernel, lw_g_in (t3_in (List.mem_of_getElem? (i := 213) rfl)) rfl, lw_g_in (t1_in (List.mem_of_getElem? (i := 1) rfl)) rfl, ⟨by decide +kernel, by decide +kernel, by decide +kernel⟩, by decide +kernel, fun h => absurd h (by decide)⟩
theorem inX8_crash : Cond.instanceMethod mX8_crash.1 ∈ lw_g := lw_g_in (t3_in (List.mem_of_getElem? (i := 211) rfl)) rfl
theorem seX8_crash : Cond.selects mX8_crash.1.cls mX8_crash.1 mX8_crash.1 ∈ lw_g := lw_g_in (t3_in (List.mem_of_getElem? (i := 212) rfl)) rfl
def mX8_result : MD := (yX8_result, cX8_result, 2, (some .int), false)
theorem okX8_result : MOk mX8_result 1 := ⟨by decide +kernel, lw_g_in (t3_in (List.mem_of_getElem? (i := 217) rfl)) rfl, lw_g_in (t1_in (List.mem_of_getElem? (i := 1) rfl)) rfl, ⟨by decide +kernel, by decide +kernel, by decide +kernel⟩, by decide +kernel, fun h => absurd h (by decide)⟩
theorem inX8_result : Cond.instanceMethod mX8_result.1 ∈ lw_g := lw_g_in (t3_in (List.mem_of_getElem? (i := 215) rfl)) rfl
theorem seX8_result : Cond.selects mX8_result.1.cls mX8_result.1 mX8_result.1 ∈ lw_g := lw_g_in (t3_in (List.mem_of_getElem? (i := 216) rfl)) rfl
def mX8_plan : MD := (yX8_plan, cX8_plan, 2, (some .long), false)
theorem okX8_plan : MOk mX8_plan 1 := ⟨by decide +kernel, lw_g_in (t3_in (List.mem_of_getElem? (i := 221) rfl)) rfl, lw_g_in (t1_in (List.mem_of_getElem? (i := 1) rfl)) rfl, ⟨by decide +kernel, by decide +kernel, by decide +kernel⟩, by decide +kernel, fun h => absurd h (by decide)⟩
theorem inX8_plan : Cond.instanceMethod mX8_plan.1 ∈ lw_g := lw_g_in (t3_in (List.mem_of_getElem? (i := 219) rfl)) rfl
theorem seX8_plan : Cond.selects mX8_plan.1.cls mX8_plan.1 mX8_plan.1 ∈ lw_g := lw_g_in (t3_in (List.mem_of_getElem? (i := 220) rfl)) rfl
def mX8_state : MD := (yX8_state, cX8_state, 3, (some .int), false)
theorem okX8_state : MOk mX8_state 1 := ⟨by decide +kernel, lw_g_in (t3_in (List.mem_of_getElem? (i := 226) rfl)) rfl, lw_g_in (t1_in (List.mem_of_getElem? (i := 1) rfl)) rfl, ⟨by decide +kernel, by decide +kernel, by decide +kernel⟩, by decide +kernel, fun h => absurd h (by decide)⟩
theorem inX8_state : Cond.instanceMethod mX8_state.1 ∈ lw_g := lw_g_in (t3_in (List.mem_of_getElem? (i := 224) rfl)) rfl
theorem seX8_state : Cond.selects mX8_state.1.cls mX8_state.1 mX8_state.1 ∈ lw_g := lw_g_in (t3_in (List.mem_of_getElem? (i := 225) rfl)) rfl
def mX8_about : MD := (yX8_about, cX8_about, 2, (some .int), false)
theorem okX8_about : MOk mX8_about 1 := ⟨by decide +kernel, lw_g_in (t3_in (List.mem_of_getElem? (i := 230) rfl)) rfl, lw_g_in (t1_in (List.mem_of_getElem? (i := 1) rfl)) rfl, ⟨by decide +kernel, by decide +kernel, by decide +kernel⟩, by decide +kernel, fun h => absurd h (by decide)⟩
theorem inX8_about : Cond.instanceMethod mX8_about.1 ∈ lw_g := lw_g_in (t3_in (List.mem_of_getElem? (i := 228) rfl)) rfl
theorem seX8_about : Cond.selects mX8_about.1.cls mX8_about.1 mX8_about.1 ∈ lw_g := lw_g_in (t3_in (List.mem_of_getElem? (i := 229) rfl)) rfl
def mX8_typeOfTop : MD := (yX8_typeOfTop, cX8_typeOfTop, 2, (some .int), false)
theorem okX8_typeOfTop : MOk mX8_typeOfTop 0 := ⟨by decide +kernel, lw_g_in (t3_in (List.mem_of_getElem? (i := 234) rfl)) rfl, lw_g_in (t1_in (List.mem_of_getElem? (i := 1) rfl)) rfl, ⟨by decide +kernel, by decide +kernel, by decide +kernel⟩, by decide +kernel, fun h => absurd h (by decide)⟩
theorem inX8_typeOfTop : Cond.instanceMethod mX8_typeOfTop.1 ∈ lw_g := lw_g_in (t3_in (List.mem_of_getElem? (i := 233) rfl)) rfl
theorem seX8_typeOfTop : Cond.selects mX8_typeOfTop.1.cls mX8_typeOfTop.1 mX8_typeOfTop.1 ∈ lw_g := lw_g_in (sels_in (List.mem_of_getElem? (i := 52) rfl)) rfl
def mX8_files : MD := (yX8_files, cX8_files, 2, (some .int), false)
theorem okX8_files : MOk mX8_files 1 := ⟨by decide +kernel, lw_g_in (t3_in (List.mem_of_getElem? (i := 238) rfl)) rfl, lw_g_in (t1_in (List.mem_of_getElem? (i := 1) rfl)) rfl, ⟨by decide +kernel, by decide +kernel, by decide +kernel⟩, by decide +kernel, fun h => absurd h (by decide)⟩
theorem inX8_files : Cond.instanceMethod mX8_files.1 ∈ lw_g := lw_g_in (t3_in (List.mem_of_getElem? (i := 236) rfl)) rfl
theorem seX8_files : Cond.selects mX8_files.1.cls mX8_files.1 mX8_files.1 ∈ lw_g := lw_g_in (t3_in (List.mem_of_getElem? (i := 237) rfl)) rfl
def mX8_file : MD := (yX8_file, cX8_file, 5, (some .int), false)
theorem okX8_file : MOk mX8_file 3 := ⟨by decide +kernel, lw_g_in (t4_in (List.mem_of_getElem? (i := 2) rfl)) rfl, lw_g_in (t1_in (List.mem_of_getElem? (i := 1) rfl)) rfl, ⟨by decide +kernel, by decide +kernel, by decide +kernel⟩, by decide +kernel, fun h => absurd h (by decide)⟩
theorem inX8_file : Cond.instanceMethod mX8_file.1 ∈ lw_g := lw_g_in (t4_in (List.mem_of_getElem? (i := 0) rfl)) rfl
theorem seX8_file : Cond.selects mX8_file.1.cls mX8_file.1 mX8_file.1 ∈ lw_g := lw_g_in (t4_in (List.mem_of_getElem? (i := 1) rfl)) rfl
def mX5_tell : MD := (yX5_tell, cX5_tell, 2, (some .int), false)
theorem okX5_tell : MOk mX5_tell 1 := ⟨by decide +kernel, lw_g_in (t4_in (List.mem_of_getElem? (i := 7) rfl)) rfl, lw_g_in (t1_in (List.mem_of_getElem? (i := 13) rfl)) rfl, ⟨by decide +kernel, by decide +kernel, by decide +kernel⟩, by decide +kernel, fun h => absurd h (by decide)⟩
theorem inX5_tell : Cond.instanceMethod mX5_tell.1 ∈ lw_g := lw_g_in (t4_in (List.mem_of_getElem? (i := 6) rfl)) rfl
theorem seX5_tell : Cond.selects mX5_tell.1.cls mX5_tell.1 mX5_tell.1 ∈ lw_g := lw_g_in (sels_in (List.mem_of_getElem? (i := 53) rfl)) rfl
def mX9_init : MD := (yX9_init, cX9_init, 1, none, true)
theorem okX9_init : MOk mX9_init 0 := ⟨by decide +kernel, lw_g_in (t4_in (List.mem_of_getElem? (i := 12) rfl)) rfl, lw_g_in (t1_in (List.mem_of_getElem? (i := 6) rfl)) rfl, ⟨by decide +kernel, by decide +kernel, by decide +kernel⟩, by decide +kernel, fun _ => rfl⟩
theorem inX9_init : Cond.instanceMethod mX9_init.1 ∈ lw_g := lw_g_in (t4_in (List.mem_of_getElem? (i := 11) rfl)) rfl
def mX9_say : MD := (yX9_say, cX9_say, 8, (some .boolean), false)
theorem okX9_say : MOk mX9_say 2 := ⟨by decide +kernel, lw_g_in (t4_in (List.mem_of_getElem? (i := 132) rfl)) rfl, lw_g_in (t1_in (List.mem_of_getElem? (i := 6) rfl)) rfl, ⟨by decide +kernel, by decide +kernel, by decide +kernel⟩, by decide +kernel, fun h => absurd h (by decide)⟩
theorem inX9_say : Cond.instanceMethod mX9_say.1 ∈ lw_g := lw_g_in (t4_in (List.mem_of_getElem? (i := 130) rfl)) rfl
theorem seX9_say : Cond.selects mX9_say.1.cls mX9_say.1 mX9_say.1 ∈ lw_g := lw_g_in (t4_in (List.mem_of_getElem? (i := 131) rfl)) rfl
def mX9_isName : MD := (yX9_isName, cX9_isName, 4, (some .boolean), false)
theorem okX9_isName : MOk mX9_isName 1 := ⟨by decide +kernel, lw_g_in (t4_in (List.mem_of_getElem? (i := 135) rfl)) rfl, lw_g_in (t1_in (List.mem_of_getElem? (i := 6) rfl)) rfl, ⟨by decide +kernel, by decide +kernel, by decide +kernel⟩, by decide +kernel, fun h => absurd h (by decide)⟩
theorem stX9_isName : Cond.static mX9_isName.1 ∈ lw_g := lw_g_in (t4_in (List.mem_of_getElem? (i := 134) rfl)) rfl
def mX9_needs : MD := (yX9_needs, cX9_needs, 1, (some .int), false)
theorem okX9_needs : MOk mX9_needs 1 := ⟨by decide +kernel, lw_g_in (t4_in (List.mem_of_getElem? (i := 138) rfl)) rfl, lw_g_in (t1_in (List.mem_of_getElem? (i := 6) rfl)) rfl, ⟨by decide +kernel, by decide +kernel, by decide +kernel⟩, by decide +kernel, fun h => absurd h (by decide)⟩
theorem stX9_needs : Cond.static mX9_needs.1 ∈ lw_g := lw_g_in (t4_in (List.mem_of_getElem? (i := 137) rfl)) rfl
def mX9_index : MD := (yX9_index, cX9_index, 4, (some .int), false)
theorem okX9_index : MOk mX9_index 0 := ⟨by decide +kernel, lw_g_in (t4_in (List.mem_of_getElem? (i := 142) rfl)) rfl, lw_g_in (t1_in (List.mem_of_getElem? (i := 6) rfl)) rfl, ⟨by decide +kernel, by decide +kernel, by decide +kernel⟩, by decide +kernel, fun h => absurd h (by decide)⟩
theorem inX9_index : Cond.instanceMethod mX9_index.1 ∈ lw_g := lw_g_in (t4_in (List.mem_of_getElem? (i := 140) rfl)) rfl
theorem seX9_index : Cond.selects mX9_index.1.cls mX9_index.1 mX9_index.1 ∈ lw_g := lw_g_in (t4_in (List.mem_of_getElem? (i := 141) rfl)) rfl
def mX9_begin : MD := (yX9_begin, cX9_begin, 1, (some .int), false)
theorem okX9_begin : MOk mX9_begin 0 := ⟨by decide +kernel, lw_g_in (t4_in (List.mem_of_getElem? (i := 146) rfl)) rfl, lw_g_in (t1_in (List.mem_of_getElem? (i := 6) rfl)) rfl, ⟨by decide +kernel, by decide +kernel, by decide +kernel⟩, by decide +kernel, fun h => absurd h (by decide)⟩
theorem inX9_begin : Cond.instanceMethod mX9_begin.1 ∈ lw_g := lw_g_in (t4_in (List.mem_of_getElem? (i := 144) rfl)) rfl
theorem seX9_begin : Cond.selects mX9_begin.1.cls mX9_begin.1 mX9_begin.1 ∈ lw_g := lw_g_in (t4_in (List.mem_of_getElem? (i := 145) rfl)) rfl
def mX9_opens : MD := (yX9_opens, cX9_opens, 3, (some .int), false)
theorem okX9_opens : MOk mX9_opens 0 := ⟨by decide +kernel, lw_g_in (t4_in (List.mem_of_getElem? (i := 150) rfl)) rfl, lw_g_in (t1_in (List.mem_of_getElem? (i := 6) rfl)) rfl, ⟨by decide +kernel, by decide +kernel, by decide +kernel⟩, by decide +kernel, fun h => absurd h (by decide)⟩
theorem inX9_opens : Cond.instanceMethod mX9_opens.1 ∈ lw_g := lw_g_in (t4_in (List.mem_of_getElem? (i := 149) rfl)) rfl
theorem seX9_opens : Cond.selects mX9_opens.1.cls mX9_opens.1 mX9_opens.1 ∈ lw_g := lw_g_in (sels_in (List.mem_of_getElem? (i := 54) rfl)) rfl
def mX9_read : MD := (yX9_read, cX9_read, 5, (some .int), false)
theorem okX9_read : MOk mX9_read 3 := ⟨by decide +kernel, lw_g_in (t4_in (List.mem_of_getElem? (i := 154) rfl)) rfl, lw_g_in (t1_in (List.mem_of_getElem? (i := 6) rfl)) rfl, ⟨by decide +kernel, by decide +kernel, by decide +kernel⟩, by decide +kernel, fun h => absurd h (by decide)⟩
theorem inX9_read : Cond.instanceMethod mX9_read.1 ∈ lw_g := lw_g_in (t4_in (List.mem_of_getElem? (i := 152) rfl)) rfl
theorem seX9_read : Cond.selects mX9_read.1.cls mX9_read.1 mX9_read.1 ∈ lw_g := lw_g_in (t4_in (List.mem_of_getElem? (i := 153) rfl)) rfl
def mX9_open : MD := (yX9_open, cX9_open, 2, (some .boolean), false)
theorem okX9_open : MOk mX9_open 1 := ⟨by decide +kernel, lw_g_in (t4_in (List.mem_of_getElem? (i := 158) rfl)) rfl, lw_g_in (t1_in (List.mem_of_getElem? (i := 6) rfl)) rfl, ⟨by decide +kernel, by decide +kernel, by decide +kernel⟩, by decide +kernel, fun h => absurd h (by decide)⟩
theorem inX9_open : Cond.instanceMethod mX9_open.1 ∈ lw_g := lw_g_in (t4_in (List.mem_of_getElem? (i := 157) rfl)) rfl
theorem seX9_open : Cond.selects mX9_open.1.cls mX9_open.1 mX9_open.1 ∈ lw_g := lw_g_in (sels_in (List.mem_of_getElem? (i := 55) rfl)) rfl
def mX9_isKey : MD := (yX9_isKey, cX9_isKey, 1, (some .boolean), false)
theorem okX9_isKey : MOk mX9_isKey 1 := ⟨by decide +kernel, lw_g_in (t4_in (List.mem_of_getElem? (i := 161) rfl)) rfl, lw_g_in (t1_in (List.mem_of_getElem? (i := 6) rfl)) rfl, ⟨by decide +kernel, by decide +kernel, by decide +kernel⟩, by decide +kernel, fun h => absurd h (by decide)⟩
theorem stX9_isKey : Cond.static mX9_isKey.1 ∈ lw_g := lw_g_in (t4_in (List.mem_of_getElem? (i := 160) rfl)) rfl
def mX9_rowFor : MD := (yX9_rowFor, cX9_rowFor, 5, (some .boolean), false)
theorem okX9_rowFor : MOk mX9_rowFor 2 := ⟨by decide +kernel, lw_g_in (t4_in (List.mem_of_getElem? (i := 165) rfl)) rfl, lw_g_in (t1_in (List.mem_of_getElem? (i := 6) rfl)) rfl, ⟨by decide +kernel, by decide +kernel, by decide +kernel⟩, by decide +kernel, fun h => absurd h (by decide)⟩
theorem inX9_rowFor : Cond.instanceMethod mX9_rowFor.1 ∈ lw_g := lw_g_in (t4_in (List.mem_of_getElem? (i := 164) rfl)) rfl
theorem seX9_rowFor : Cond.selects mX9_rowFor.1.cls mX9_rowFor.1 mX9_rowFor.1 ∈ lw_g := lw_g_in (sels_in (List.mem_of_getElem? (i := 56) rfl)) rfl
def mX9_rowAt : MD := (yX9_rowAt, cX9_rowAt, 6, (some .boolean), false)
theorem okX9_rowAt : MOk mX9_rowAt 2 := ⟨by decide +kernel, lw_g_in (t4_in (List.mem_of_getElem? (i := 169) rfl)) rfl, lw_g_in (t1_in (List.mem_of_getElem? (i := 6) rfl)) rfl, ⟨by decide +kernel, by decide +kernel, by decide +kernel⟩, by decide +kernel, fun h => absurd h (by decide)⟩
theorem inX9_rowAt : Cond.instanceMethod mX9_rowAt.1 ∈ lw_g := lw_g_in (t4_in (List.mem_of_getElem? (i := 168) rfl)) rfl
theorem seX9_rowAt : Cond.selects mX9_rowAt.1.cls mX9_rowAt.1 mX9_rowAt.1 ∈ lw_g := lw_g_in (sels_in (List.mem_of_getElem? (i := 57) rfl)) rfl
def mX9_seen : MD := (yX9_seen, cX9_seen, 7, (some .int), false)
theorem okX9_seen : MOk mX9_seen 4 := ⟨by decide +kernel, lw_g_in (t4_in (List.mem_of_getElem? (i := 173) rfl)) rfl, lw_g_in (t1_in (List.mem_of_getElem? (i := 6) rfl)) rfl, ⟨by decide +kernel, by decide +kernel, by decide +kernel⟩, by decide +kernel, fun h => absurd h (by decide)⟩
theorem inX9_seen : Cond.instanceMethod mX9_seen.1 ∈ lw_g := lw_g_in (t4_in (List.mem_of_getElem? (i := 172) rfl)) rfl
theorem seX9_seen : Cond.selects mX9_seen.1.cls mX9_seen.1 mX9_seen.1 ∈ lw_g := lw_g_in (sels_in (List.mem_of_getElem? (i := 58) rfl)) rfl
def mX9_write : MD := (yX9_write, cX9_write, 6, (some .boolean), false)
theorem okX9_write : MOk mX9_write 5 := ⟨by decide +kernel, lw_g_in (t4_in (List.mem_of_getElem? (i := 177) rfl)) rfl, lw_g_in (t1_in (List.mem_of_getElem? (i := 6) rfl)) rfl, ⟨by decide +kernel, by decide +kernel, by decide +kernel⟩, by decide +kernel, fun h => absurd h (by decide)⟩
theorem inX9_write : Cond.instanceMethod mX9_write.1 ∈ lw_g := lw_g_in (t4_in (List.mem_of_getElem? (i := 175) rfl)) rfl
theorem seX9_write : Cond.selects mX9_write.1.cls mX9_write.1 mX9_write.1 ∈ lw_g := lw_g_in (t4_in (List.mem_of_getElem? (i := 176) rfl)) rfl
def mX9_remove : MD := (yX9_remove, cX9_remove, 3, (some .boolean), false)
theorem okX9_remove : MOk mX9_remove 2 := ⟨by decide +kernel, lw_g_in (t4_in (List.mem_of_getElem? (i := 181) rfl)) rfl, lw_g_in (t1_in (List.mem_of_getElem? (i := 6) rfl)) rfl, ⟨by decide +kernel, by decide +kernel, by decide +kernel⟩, by decide +kernel, fun h => absurd h (by decide)⟩
theorem inX9_remove : Cond.instanceMethod mX9_remove.1 ∈ lw_g := lw_g_in (t4_in (List.mem_of_getElem? (i := 179) rfl)) rfl
theorem seX9_remove : Cond.selects mX9_remove.1.cls mX9_remove.1 mX9_remove.1 ∈ lw_g := lw_g_in (t4_in (List.mem_of_getElem? (i := 180) rfl)) rfl
def mX9_commit : MD := (yX9_commit, cX9_commit, 3, (some .int), false)
theorem okX9_commit : MOk mX9_commit 1 := ⟨by decide +kernel, lw_g_in (t4_in (List.mem_of_getElem? (i := 185) rfl)) rfl, lw_g_in (t1_in (List.mem_of_getElem? (i := 6) rfl)) rfl, ⟨by decide +kernel, by decide +kernel, by decide +kernel⟩, by decide +kernel, fun h => absurd h (by decide)⟩
theorem inX9_commit : Cond.instanceMethod mX9_commit.1 ∈ lw_g := lw_g_in (t4_in (List.mem_of_getElem? (i := 183) rfl)) rfl
theorem seX9_commit : Cond.selects mX9_commit.1.cls mX9_commit.1 mX9_commit.1 ∈ lw_g := lw_g_in (t4_in (List.mem_of_getElem? (i := 184) rfl)) rfl
def mX9_beaten : MD := (yX9_beaten, cX9_beaten, 4, (some .boolean), false)
theorem okX9_beaten : MOk mX9_beaten 1 := ⟨by decide +kernel, lw_g_in (t4_in (List.mem_of_getElem? (i := 189) rfl)) rfl, lw_g_in (t1_in (List.mem_of_getElem? (i := 6) rfl)) rfl, ⟨by decide +kernel, by decide +kernel, by decide +kernel⟩, by decide +kernel, fun h => absurd h (by decide)⟩
theorem inX9_beaten : Cond.instanceMethod mX9_beaten.1 ∈ lw_g := lw_g_in (t4_in (List.mem_of_getElem? (i := 188) rfl)) rfl
theorem seX9_beaten : Cond.selects mX9_beaten.1.cls mX9_beaten.1 mX9_beaten.1 ∈ lw_g := lw_g_in (sels_in (List.mem_of_getElem? (i := 59) rfl)) rfl
def mX9_reads : MD := (yX9_reads, cX9_reads, 4, (some .boolean), false)
theorem okX9_reads : MOk mX9_reads 1 := ⟨by decide +kernel, lw_g_in (t4_in (List.mem_of_getElem? (i := 193) rfl)) rfl, lw_g_in (t1_in (List.mem_of_getElem? (i := 6) rfl)) rfl, ⟨by decide +kernel, by decide +kernel, by decide +kernel⟩, by decide +kernel, fun h => absurd h (by decide)⟩
theorem inX9_reads : Cond.instanceMethod mX9_reads.1 ∈ lw_g := lw_g_in (t4_in (List.mem_of_getElem? (i := 192) rfl)) rfl
theorem seX9_reads : Cond.selects mX9_reads.1.cls mX9_reads.1 mX9_reads.1 ∈ lw_g := lw_g_in (sels_in (List.mem_of_getElem? (i := 60) rfl)) rfl
def mX9_batch : MD := (yX9_batch, cX9_batch, 13, (some .int), false)
theorem okX9_batch : MOk mX9_batch 2 := ⟨by decide +kernel, lw_g_in (t4_in (List.mem_of_getElem? (i := 197) rfl)) rfl, lw_g_in (t1_in (List.mem_of_getElem? (i := 6) rfl)) rfl, ⟨by decide +kernel, by decide +kernel, by decide +kernel⟩, by decide +kernel, fun h => absurd h (by decide)⟩
theorem inX9_batch : Cond.instanceMethod mX9_batch.1 ∈ lw_g := lw_g_in (t4_in (List.mem_of_getElem? (i := 196) rfl)) rfl
theorem seX9_batch : Cond.selects mX9_batch.1.cls mX9_batch.1 mX9_batch.1 ∈ lw_g := lw_g_in (sels_in (List.mem_of_getElem? (i := 61) rfl)) rfl
def mX9_value : MD := (yX9_value, cX9_value, 5, (some .int), false)
theorem okX9_value : MOk mX9_value 1 := ⟨by decide +kernel, lw_g_in (t4_in (List.mem_of_getElem? (i := 201) rfl)) rfl, lw_g_in (t1_in (List.mem_of_getElem? (i := 6) rfl)) rfl, ⟨by decide +kernel, by decide +kernel, by decide +kernel⟩, by decide +kernel, fun h => absurd h (by decide)⟩
theorem inX9_value : Cond.instanceMethod mX9_value.1 ∈ lw_g := lw_g_in (t4_in (List.mem_of_getElem? (i := 200) rfl)) rfl
theorem seX9_value : Cond.selects mX9_value.1.cls mX9_value.1 mX9_value.1 ∈ lw_g := lw_g_in (sels_in (List.mem_of_getElem? (i := 62) rfl)) rfl
def mX9_starts : MD := (yX9_starts, cX9_starts, 5, (some .boolean), false)
theorem okX9_starts : MOk mX9_starts 2 := ⟨by decide +kernel, lw_g_in (t4_in (List.mem_of_getElem? (i := 204) rfl)) rfl, lw_g_in (t1_in (List.mem_of_getElem? (i := 6) rfl)) rfl, ⟨by decide +kernel, by decide +kernel, by decide +kernel⟩, by decide +kernel, fun h => absurd h (by decide)⟩
theorem stX9_starts : Cond.static mX9_starts.1 ∈ lw_g := lw_g_in (t4_in (List.mem_of_getElem? (i := 203) rfl)) rfl
def mX9_two : MD := (yX9_two, cX9_two, 4, (some .int), false)
theorem okX9_two : MOk mX9_two 3 := ⟨by decide +kernel, lw_g_in (t4_in (List.mem_of_getElem? (i := 207) rfl)) rfl, lw_g_in (t1_in (List.mem_of_getElem? (i := 6) rfl)) rfl, ⟨by decide +kernel, by decide +kernel, by decide +kernel⟩, by decide +kernel, fun h => absurd h (by decide)⟩
theorem stX9_two : Cond.static mX9_two.1 ∈ lw_g := lw_g_in (t4_in (List.mem_of_getElem? (i := 206) rfl)) rfl
def mX9_entry : MD := (yX9_entry, cX9_entry, 6, none, false)
theorem okX9_entry : MOk mX9_entry 4 := ⟨by decide +kernel, lw_g_in (t4_in (List.mem_of_getElem? (i := 211) rfl)) rfl, lw_g_in (t1_in (List.mem_of_getElem? (i := 6) rfl)) rfl, ⟨by decide +kernel, by decide +kernel, by decide +kernel⟩, by decide +kernel, fun h => absurd h (by decide)⟩
theorem inX9_entry : Cond.instanceMethod mX9_entry.1 ∈ lw_g := lw_g_in (t4_in (List.mem_of_getElem? (i := 210) rfl)) rfl
theorem seX9_entry : Cond.selects mX9_entry.1.cls mX9_entry.1 mX9_entry.1 ∈ lw_g := lw_g_in (sels_in (List.mem_of_getElem? (i := 63) rfl)) rfl
def mX9_comes : MD := (yX9_comes, cX9_comes, 2, none, false)
theorem okX9_comes : MOk mX9_comes 1 := ⟨by decide +kernel, lw_g_in (t4_in (List.mem_of_getElem? (i := 215) rfl)) rfl, lw_g_in (t1_in (List.mem_of_getElem? (i := 6) rfl)) rfl, ⟨by decide +kernel, by decide +kernel, by decide +kernel⟩, by decide +kernel, fun h => absurd h (by decide)⟩
theorem inX9_comes : Cond.instanceMethod mX9_comes.1 ∈ lw_g := lw_g_in (t4_in (List.mem_of_getElem? (i := 214) rfl)) rfl
theorem seX9_comes : Cond.selects mX9_comes.1.cls mX9_comes.1 mX9_comes.1 ∈ lw_g := lw_g_in (sels_in (List.mem_of_getElem? (i := 64) rfl)) rfl
def mX9_inFile : MD := (yX9_inFile, cX9_inFile, 4, (some .int), false)
theorem okX9_inFile : MOk mX9_inFile 1 := ⟨by decide +kernel, lw_g_in (t4_in (List.mem_of_getElem? (i := 219) rfl)) rfl, lw_g_in (t1_in (List.mem_of_getElem? (i := 6) rfl)) rfl, ⟨by decide +kernel, by decide +kernel, by decide +kernel⟩, by decide +kernel, fun h => absurd h (by decide)⟩
theorem inX9_inFile : Cond.instanceMethod mX9_inFile.1 ∈ lw_g := lw_g_in (t4_in (List.mem_of_getElem? (i := 218) rfl)) rfl
theorem seX9_inFile : Cond.selects mX9_inFile.1.cls mX9_inFile.1 mX9_inFile.1 ∈ lw_g := lw_g_in (sels_in (List.mem_of_getElem? (i := 65) rfl)) rfl
def mX9_flush : MD := (yX9_flush, cX9_flush, 3, (some .int), false)
theorem okX9_flush : MOk mX9_flush 0 := ⟨by decide +kernel, lw_g_in (t4_in (List.mem_of_getElem? (i := 223) rfl)) rfl, lw_g_in (t1_in (List.mem_of_getElem? (i := 6) rfl)) rfl, ⟨by decide +kernel, by decide +kernel, by decide +kernel⟩, by decide +kernel, fun h => absurd h (by decide)⟩
theorem inX9_flush : Cond.instanceMethod mX9_flush.1 ∈ lw_g := lw_g_in (t4_in (List.mem_of_getElem? (i := 221) rfl)) rfl
theorem seX9_flush : Cond.selects mX9_flush.1.cls mX9_flush.1 mX9_flush.1 ∈ lw_g := lw_g_in (t4_in (List.mem_of_getElem? (i := 222) rfl)) rfl
def mX9_addFile : MD := (yX9_addFile, cX9_addFile, 2, none, false)
theorem okX9_addFile : MOk mX9_addFile 1 := ⟨by decide +kernel, lw_g_in (t4_in (List.mem_of_getElem? (i := 227) rfl)) rfl, lw_g_in (t1_in (List.mem_of_getElem? (i := 6) rfl)) rfl, ⟨by decide +kernel, by decide +kernel, by decide +kernel⟩, by decide +kernel, fun h => absurd h (by decide)⟩
theorem inX9_addFile : Cond.instanceMethod mX9_addFile.1 ∈ lw_g := lw_g_in (t4_in (List.mem_of_getElem? (i := 226) rfl)) rfl
theorem seX9_addFile : Cond.selects mX9_addFile.1.cls mX9_addFile.1 mX9_addFile.1 ∈ lw_g := lw_g_in (sels_in (List.mem_of_getElem? (i := 66) rfl)) rfl
def mX9_settle : MD := (yX9_settle, cX9_settle, 3, none, false)
theorem okX9_settle : MOk mX9_settle 0 := ⟨by decide +kernel, lw_g_in (t4_in (List.mem_of_getElem? (i := 231) rfl)) rfl, lw_g_in (t1_in (List.mem_of_getElem? (i := 6) rfl)) rfl, ⟨by decide +kernel, by decide +kernel, by decide +kernel⟩, by decide +kernel, fun h => absurd h (by decide)⟩
theorem inX9_settle : Cond.instanceMethod mX9_settle.1 ∈ lw_g := lw_g_in (t4_in (List.mem_of_getElem? (i := 230) rfl)) rfl
theorem seX9_settle : Cond.selects mX9_settle.1.cls mX9_settle.1 mX9_settle.1 ∈ lw_g := lw_g_in (sels_in (List.mem_of_getElem? (i := 67) rfl)) rfl
def mX9_files : MD := (yX9_files, cX9_files, 4, (some .int), false)
theorem okX9_files : MOk mX9_files 1 := ⟨by decide +kernel, lw_g_in (t4_in (List.mem_of_getElem? (i := 235) rfl)) rfl, lw_g_in (t1_in (List.mem_of_getElem? (i := 6) rfl)) rfl, ⟨by decide +kernel, by decide +kernel, by decide +kernel⟩, by decide +kernel, fun h => absurd h (by decide)⟩
theorem inX9_files : Cond.instanceMethod mX9_files.1 ∈ lw_g := lw_g_in (t4_in (List.mem_of_getElem? (i := 233) rfl)) rfl
theorem seX9_files : Cond.selects mX9_files.1.cls mX9_files.1 mX9_files.1 ∈ lw_g := lw_g_in (t4_in (List.mem_of_getElem? (i := 234) rfl)) rfl
def mX9_compacts : MD := (yX9_compacts, cX9_compacts, 7, (some .int), false)
theorem okX9_compacts : MOk mX9_compacts 1 := ⟨by decide +kernel, lw_g_in (t4_in (List.mem_of_getElem? (i := 239) rfl)) rfl, lw_g_in (t1_in (List.mem_of_getElem? (i := 6) rfl)) rfl, ⟨by decide +kernel, by decide +kernel, by decide +kernel⟩, by decide +kernel, fun h => absurd h (by decide)⟩
theorem inX9_compacts : Cond.instanceMethod mX9_compacts.1 ∈ lw_g := lw_g_in (t4_in (List.mem_of_getElem? (i := 238) rfl)) rfl
theorem seX9_compacts : Cond.selects mX9_compacts.1.cls mX9_compacts.1 mX9_compacts.1 ∈ lw_g := lw_g_in (sels_in (List.mem_of_getElem? (i := 68) rfl)) rfl
def mX9_meet : MD := (yX9_meet, cX9_meet, 7, (some .boolean), false)
theorem okX9_meet : MOk mX9_meet 2 := ⟨by decide +kernel, lw_g_in (t5_in (List.mem_of_getElem? (i := 3) rfl)) rfl, lw_g_in (t1_in (List.mem_of_getElem? (i := 6) rfl)) rfl, ⟨by decide +kernel, by decide +kernel, by decide +kernel⟩, by decide +kernel, fun h => absurd h (by decide)⟩
theorem inX9_meet : Cond.instanceMethod mX9_meet.1 ∈ lw_g := lw_g_in (t5_in (List.mem_of_getElem? (i := 2) rfl)) rfl
theorem seX9_meet : Cond.selects mX9_meet.1.cls mX9_meet.1 mX9_meet.1 ∈ lw_g := lw_g_in (sels_in (List.mem_of_getElem? (i := 69) rfl)) rfl
def mX9_end : MD := (yX9_end, cX9_end, 5, (some .int), false)
theorem okX9_end : MOk mX9_end 2 := ⟨by decide +kernel, lw_g_in (t5_in (List.mem_of_getElem? (i := 7) rfl)) rfl, lw_g_in (t1_in (List.mem_of_getElem? (i := 6) rfl)) rfl, ⟨by decide +kernel, by decide +kernel, by decide +kernel⟩, by decide +kernel, fun h => absurd h (by decide)⟩
theorem inX9_end : Cond.instanceMethod mX9_end.1 ∈ lw_g := lw_g_in (t5_in (List.mem_of_getElem? (i := 6) rfl)) rfl
theorem seX9_end : Cond.selects mX9_end.1.cls mX9_end.1 mX9_end.1 ∈ lw_g := lw_g_in (sels_in (List.mem_of_getElem? (i := 70) rfl)) rfl
def mX9_before : MD := (yX9_before, cX9_before, 4, (some .boolean), false)
theorem okX9_before : MOk mX9_before 2 := ⟨by decide +kernel, lw_g_in (t5_in (List.mem_of_getElem? (i := 11) rfl)) rfl, lw_g_in (t1_in (List.mem_of_getElem? (i := 6) rfl)) rfl, ⟨by decide +kernel, by decide +kernel, by decide +kernel⟩, by decide +kernel, fun h => absurd h (by decide)⟩
theorem inX9_before : Cond.instanceMethod mX9_before.1 ∈ lw_g := lw_g_in (t5_in (List.mem_of_getElem? (i := 10) rfl)) rfl
theorem seX9_before : Cond.selects mX9_before.1.cls mX9_before.1 mX9_before.1 ∈ lw_g := lw_g_in (sels_in (List.mem_of_getElem? (i := 71) rfl)) rfl
def mX9_places : MD := (yX9_places, cX9_places, 3, (some .int), false)
theorem okX9_places : MOk mX9_places 2 := ⟨by decide +kernel, lw_g_in (t5_in (List.mem_of_getElem? (i := 15) rfl)) rfl, lw_g_in (t1_in (List.mem_of_getElem? (i := 6) rfl)) rfl, ⟨by decide +kernel, by decide +kernel, by decide +kernel⟩, by decide +kernel, fun h => absurd h (by decide)⟩
theorem inX9_places : Cond.instanceMethod mX9_places.1 ∈ lw_g := lw_g_in (t5_in (List.mem_of_getElem? (i := 14) rfl)) rfl
theorem seX9_places : Cond.selects mX9_places.1.cls mX9_places.1 mX9_places.1 ∈ lw_g := lw_g_in (sels_in (List.mem_of_getElem? (i := 72) rfl)) rfl
def mX9_dropFile : MD := (yX9_dropFile, cX9_dropFile, 3, none, false)
theorem okX9_dropFile : MOk mX9_dropFile 1 := ⟨by decide +kernel, lw_g_in (t5_in (List.mem_of_getElem? (i := 19) rfl)) rfl, lw_g_in (t1_in (List.mem_of_getElem? (i := 6) rfl)) rfl, ⟨by decide +kernel, by decide +kernel, by decide +kernel⟩, by decide +kernel, fun h => absurd h (by decide)⟩
theorem inX9_dropFile : Cond.instanceMethod mX9_dropFile.1 ∈ lw_g := lw_g_in (t5_in (List.mem_of_getElem? (i := 18) rfl)) rfl
theorem seX9_dropFile : Cond.selects mX9_dropFile.1.cls mX9_dropFile.1 mX9_dropFile.1 ∈ lw_g := lw_g_in (sels_in (List.mem_of_getElem? (i := 73) rfl)) rfl
def mX9_sort : MD := (yX9_sort, cX9_sort, 3, none, false)
theorem okX9_sort : MOk mX9_sort 0 := ⟨by decide +kernel, lw_g_in (t5_in (List.mem_of_getElem? (i := 23) rfl)) rfl, lw_g_in (t1_in (List.mem_of_getElem? (i := 6) rfl)) rfl, ⟨by decide +kernel, by decide +kernel, by decide +kernel⟩, by decide +kernel, fun h => absurd h (by decide)⟩
theorem inX9_sort : Cond.instanceMethod mX9_sort.1 ∈ lw_g := lw_g_in (t5_in (List.mem_of_getElem? (i := 22) rfl)) rfl
theorem seX9_sort : Cond.selects mX9_sort.1.cls mX9_sort.1 mX9_sort.1 ∈ lw_g := lw_g_in (sels_in (List.mem_of_getElem? (i := 74) rfl)) rfl
def mX9_merge : MD := (yX9_merge, cX9_merge, 11, (some .int), false)
theorem okX9_merge : MOk mX9_merge 1 := ⟨by decide +kernel, lw_g_in (t5_in (List.mem_of_getElem? (i := 27) rfl)) rfl, lw_g_in (t1_in (List.mem_of_getElem? (i := 6) rfl)) rfl, ⟨by decide +kernel, by decide +kernel, by decide +kernel⟩, by decide +kernel, fun h => absurd h (by decide)⟩
theorem inX9_merge : Cond.instanceMethod mX9_merge.1 ∈ lw_g := lw_g_in (t5_in (List.mem_of_getElem? (i := 26) rfl)) rfl
theorem seX9_merge : Cond.selects mX9_merge.1.cls mX9_merge.1 mX9_merge.1 ∈ lw_g := lw_g_in (sels_in (List.mem_of_getElem? (i := 75) rfl)) rfl
def mX9_horizon : MD := (yX9_horizon, cX9_horizon, 3, (some .int), false)
theorem okX9_horizon : MOk mX9_horizon 0 := ⟨by decide +kernel, lw_g_in (t5_in (List.mem_of_getElem? (i := 31) rfl)) rfl, lw_g_in (t1_in (List.mem_of_getElem? (i := 6) rfl)) rfl, ⟨by decide +kernel, by decide +kernel, by decide +kernel⟩, by decide +kernel, fun h => absurd h (by decide)⟩
theorem inX9_horizon : Cond.instanceMethod mX9_horizon.1 ∈ lw_g := lw_g_in (t5_in (List.mem_of_getElem? (i := 30) rfl)) rfl
theorem seX9_horizon : Cond.selects mX9_horizon.1.cls mX9_horizon.1 mX9_horizon.1 ∈ lw_g := lw_g_in (sels_in (List.mem_of_getElem? (i := 76) rfl)) rfl
def mX9_clean : MD := (yX9_clean, cX9_clean, 4, none, false)
theorem okX9_clean : MOk mX9_clean 0 := ⟨by decide +kernel, lw_g_in (t5_in (List.mem_of_getElem? (i := 35) rfl)) rfl, lw_g_in (t1_in (List.mem_of_getElem? (i := 6) rfl)) rfl, ⟨by decide +kernel, by decide +kernel, by decide +kernel⟩, by decide +kernel, fun h => absurd h (by decide)⟩
theorem inX9_clean : Cond.instanceMethod mX9_clean.1 ∈ lw_g := lw_g_in (t5_in (List.mem_of_getElem? (i := 34) rfl)) rfl
theorem seX9_clean : Cond.selects mX9_clean.1.cls mX9_clean.1 mX9_clean.1 ∈ lw_g := lw_g_in (sels_in (List.mem_of_getElem? (i := 77) rfl)) rfl
def mX9_tear : MD := (yX9_tear, cX9_tear, 6, (some .int), false)
theorem okX9_tear : MOk mX9_tear 2 := ⟨by decide +kernel, lw_g_in (t5_in (List.mem_of_getElem? (i := 39) rfl)) rfl, lw_g_in (t1_in (List.mem_of_getElem? (i := 6) rfl)) rfl, ⟨by decide +kernel, by decide +kernel, by decide +kernel⟩, by decide +kernel, fun h => absurd h (by decide)⟩
theorem inX9_tear : Cond.instanceMethod mX9_tear.1 ∈ lw_g := lw_g_in (t5_in (List.mem_of_getElem? (i := 37) rfl)) rfl
theorem seX9_tear : Cond.selects mX9_tear.1.cls mX9_tear.1 mX9_tear.1 ∈ lw_g := lw_g_in (t5_in (List.mem_of_getElem? (i := 38) rfl)) rfl
def mX9_crash : MD := (yX9_crash, cX9_crash, 3, (some .int), false)
theorem okX9_crash : MOk mX9_crash 0 := ⟨by decide +kernel, lw_g_in (t5_in (List.mem_of_getElem? (i := 43) rfl)) rfl, lw_g_in (t1_in (List.mem_of_getElem? (i := 6) rfl)) rfl, ⟨by decide +kernel, by decide +kernel, by decide +kernel⟩, by decide +kernel, fun h => absurd h (by decide)⟩
theorem inX9_crash : Cond.instanceMethod mX9_crash.1 ∈ lw_g := lw_g_in (t5_in (List.mem_of_getElem? (i := 41) rfl)) rfl
theorem seX9_crash : Cond.selects mX9_crash.1.cls mX9_crash.1 mX9_crash.1 ∈ lw_g := lw_g_in (t5_in (List.mem_of_getElem? (i := 42) rfl)) rfl
def mX9_abort : MD := (yX9_abort, cX9_abort, 2, (some .boolean), false)
theorem okX9_abort : MOk mX9_abort 1 := ⟨by decide +kernel, lw_g_in (t5_in (List.mem_of_getElem? (i := 47) rfl)) rfl, lw_g_in (t1_in (List.mem_of_getElem? (i := 6) rfl)) rfl, ⟨by decide +kernel, by decide +kernel, by decide +kernel⟩, by decide +kernel, fun h => absurd h (by decide)⟩
theorem inX9_abort : Cond.instanceMethod mX9_abort.1 ∈ lw_g := lw_g_in (t5_in (List.mem_of_getElem? (i := 45) rfl)) rfl
theorem seX9_abort : Cond.selects mX9_abort.1.cls mX9_abort.1 mX9_abort.1 ∈ lw_g := lw_g_in (t5_in (List.mem_of_getElem? (i := 46) rfl)) rfl
def mX9_compact : MD := (yX9_compact, cX9_compact, 1, (some .int), false)
theorem okX9_compact : MOk mX9_compact 0 := ⟨by decide +kernel, lw_g_in (t5_in (List.mem_of_getElem? (i := 54) rfl)) rfl, lw_g_in (t1_in (List.mem_of_getElem? (i := 6) rfl)) rfl, ⟨by decide +kernel, by decide +kernel, by decide +kernel⟩, by decide +kernel, fun h => absurd h (by decide)⟩
theorem inX9_compact : Cond.instanceMethod mX9_compact.1 ∈ lw_g := lw_g_in (t5_in (List.mem_of_getElem? (i := 52) rfl)) rfl
theorem seX9_compact : Cond.selects mX9_compact.1.cls mX9_compact.1 mX9_compact.1 ∈ lw_g := lw_g_in (t5_in (List.mem_of_getElem? (i := 53) rfl)) rfl
def mX9_query : MD := (yX9_query, cX9_query, 5, (some .int), false)
theorem okX9_query : MOk mX9_query 1 := ⟨by decide +kernel, lw_g_in (t5_in (List.mem_of_getElem? (i := 58) rfl)) rfl, lw_g_in (t1_in (List.mem_of_getElem? (i := 6) rfl)) rfl, ⟨by decide +kernel, by decide +kernel, by decide +kernel⟩, by decide +kernel, fun h => absurd h (by decide)⟩
theorem inX9_query : Cond.instanceMethod mX9_query.1 ∈ lw_g := lw_g_in (t5_in (List.mem_of_getElem? (i := 56) rfl)) rfl
theorem seX9_query : Cond.selects mX9_query.1.cls mX9_query.1 mX9_query.1 ∈ lw_g := lw_g_in (t5_in (List.mem_of_getElem? (i := 57) rfl)) rfl
def mX9_conjuncts : MD := (yX9_conjuncts, cX9_conjuncts, 5, none, false)
theorem okX9_conjuncts : MOk mX9_conjuncts 2 := ⟨by decide +kernel, lw_g_in (t5_in (List.mem_of_getElem? (i := 62) rfl)) rfl, lw_g_in (t1_in (List.mem_of_getElem? (i := 6) rfl)) rfl, ⟨by decide +kernel, by decide +kernel, by decide +kernel⟩, by decide +kernel, fun h => absurd h (by decide)⟩
theorem inX9_conjuncts : Cond.instanceMethod mX9_conjuncts.1 ∈ lw_g := lw_g_in (t5_in (List.mem_of_getElem? (i := 61) rfl)) rfl
theorem seX9_conjuncts : Cond.selects mX9_conjuncts.1.cls mX9_conjuncts.1 mX9_conjuncts.1 ∈ lw_g := lw_g_in (sels_in (List.mem_of_getElem? (i := 78) rfl)) rfl
def mX9_from : MD := (yX9_from, cX9_from, 5, (some .int), false)
theorem okX9_from : MOk mX9_from 2 := ⟨by decide +kernel, lw_g_in (t5_in (List.mem_of_getElem? (i := 68) rfl)) rfl, lw_g_in (t1_in (List.mem_of_getElem? (i := 6) rfl)) rfl, ⟨by decide +kernel, by decide +kernel, by decide +kernel⟩, by decide +kernel, fun h => absurd h (by decide)⟩
theorem inX9_from : Cond.instanceMethod mX9_from.1 ∈ lw_g := lw_g_in (t5_in (List.mem_of_getElem? (i := 67) rfl)) rfl
theorem seX9_from : Cond.selects mX9_from.1.cls mX9_from.1 mX9_from.1 ∈ lw_g := lw_g_in (sels_in (List.mem_of_getElem? (i := 79) rfl)) rfl
def mX9_conjunct : MD := (yX9_conjunct, cX9_conjunct, 9, none, false)
theorem okX9_conjunct : MOk mX9_conjunct 3 := ⟨by decide +kernel, lw_g_in (t5_in (List.mem_of_getElem? (i := 72) rfl)) rfl, lw_g_in (t1_in (List.mem_of_getElem? (i := 6) rfl)) rfl, ⟨by decide +kernel, by decide +kernel, by decide +kernel⟩, by decide +kernel, fun h => absurd h (by decide)⟩
theorem inX9_conjunct : Cond.instanceMethod mX9_conjunct.1 ∈ lw_g := lw_g_in (t5_in (List.mem_of_getElem? (i := 71) rfl)) rfl
theorem seX9_conjunct : Cond.selects mX9_conjunct.1.cls mX9_conjunct.1 mX9_conjunct.1 ∈ lw_g := lw_g_in (sels_in (List.mem_of_getElem? (i := 80) rfl)) rfl
def mX9_same : MD := (yX9_same, cX9_same, 8, (some .boolean), false)
theorem okX9_same : MOk mX9_same 4 := ⟨by decide +kernel, lw_g_in (t5_in (List.mem_of_getElem? (i := 76) rfl)) rfl, lw_g_in (t1_in (List.mem_of_getElem? (i := 6) rfl)) rfl, ⟨by decide +kernel, by decide +kernel, by decide +kernel⟩, by decide +kernel, fun h => absurd h (by decide)⟩
theorem inX9_same : Cond.instanceMethod mX9_same.1 ∈ lw_g := lw_g_in (t5_in (List.mem_of_getElem? (i := 75) rfl)) rfl
theorem seX9_same : Cond.selects mX9_same.1.cls mX9_same.1 mX9_same.1 ∈ lw_g := lw_g_in (sels_in (List.mem_of_getElem? (i := 81) rfl)) rfl
def mX9_bound : MD := (yX9_bound, cX9_bound, 5, none, false)
theorem okX9_bound : MOk mX9_bound 2 := ⟨by decide +kernel, lw_g_in (t5_in (List.mem_of_getElem? (i := 80) rfl)) rfl, lw_g_in (t1_in (List.mem_of_getElem? (i := 6) rfl)) rfl, ⟨by decide +kernel, by decide +kernel, by decide +kernel⟩, by decide +kernel, fun h => absurd h (by decide)⟩
theorem inX9_bound : Cond.instanceMethod mX9_bound.1 ∈ lw_g := lw_g_in (t5_in (List.mem_of_getElem? (i := 79) rfl)) rfl
theorem seX9_bound : Cond.selects mX9_bound.1.cls mX9_bound.1 mX9_bound.1 ∈ lw_g := lw_g_in (sels_in (List.mem_of_getElem? (i := 82) rfl)) rfl
def mX9_result : MD := (yX9_result, cX9_result, 2, (some .int), false)
theorem okX9_result : MOk mX9_result 1 := ⟨by decide +kernel, lw_g_in (t5_in (List.mem_of_getElem? (i := 84) rfl)) rfl, lw_g_in (t1_in (List.mem_of_getElem? (i := 6) rfl)) rfl, ⟨by decide +kernel, by decide +kernel, by decide +kernel⟩, by decide +kernel, fun h => absurd h (by decide)⟩
theorem inX9_result : Cond.instanceMethod mX9_result.1 ∈ lw_g := lw_g_in (t5_in (List.mem_of_getElem? (i := 82) rfl)) rfl
theorem seX9_result : Cond.selects mX9_result.1.cls mX9_result.1 mX9_result.1 ∈ lw_g := lw_g_in (t5_in (List.mem_of_getElem? (i := 83) rfl)) rfl
def mX9_plan : MD := (yX9_plan, cX9_plan, 2, (some .long), false)
theorem okX9_plan : MOk mX9_plan 1 := ⟨by decide +kernel, lw_g_in (t5_in (List.mem_of_getElem? (i := 88) rfl)) rfl, lw_g_in (t1_in (List.mem_of_getElem? (i := 6) rfl)) rfl, ⟨by decide +kernel, by decide +kernel, by decide +kernel⟩, by decide +kernel, fun h => absurd h (by decide)⟩
theorem inX9_plan : Cond.instanceMethod mX9_plan.1 ∈ lw_g := lw_g_in (t5_in (List.mem_of_getElem? (i := 86) rfl)) rfl
theorem seX9_plan : Cond.selects mX9_plan.1.cls mX9_plan.1 mX9_plan.1 ∈ lw_g := lw_g_in (t5_in (List.mem_of_getElem? (i := 87) rfl)) rfl
def mX9_state : MD := (yX9_state, cX9_state, 2, (some .int), false)
theorem okX9_state : MOk mX9_state 1 := ⟨by decide +kernel, lw_g_in (t5_in (List.mem_of_getElem? (i := 93) rfl)) rfl, lw_g_in (t1_in (List.mem_of_getElem? (i := 6) rfl)) rfl, ⟨by decide +kernel, by decide +kernel, by decide +kernel⟩, by decide +kernel, fun h => absurd h (by decide)⟩
theorem inX9_state : Cond.instanceMethod mX9_state.1 ∈ lw_g := lw_g_in (t5_in (List.mem_of_getElem? (i := 91) rfl)) rfl
theorem seX9_state : Cond.selects mX9_state.1.cls mX9_state.1 mX9_state.1 ∈ lw_g := lw_g_in (t5_in (List.mem_of_getElem? (i := 92) rfl)) rfl
def mX9_about : MD := (yX9_about, cX9_about, 2, (some .int), false)
theorem okX9_about : MOk mX9_about 1 := ⟨by decide +kernel, lw_g_in (t5_in (List.mem_of_getElem? (i := 97) rfl)) rfl, lw_g_in (t1_in (List.mem_of_getElem? (i := 6) rfl)) rfl, ⟨by decide +kernel, by decide +kernel, by decide +kernel⟩, by decide +kernel, fun h => absurd h (by decide)⟩
theorem inX9_about : Cond.instanceMethod mX9_about.1 ∈ lw_g := lw_g_in (t5_in (List.mem_of_getElem? (i := 95) rfl)) rfl
theorem seX9_about : Cond.selects mX9_about.1.cls mX9_about.1 mX9_about.1 ∈ lw_g := lw_g_in (t5_in (List.mem_of_getElem? (i := 96) rfl)) rfl
def mX9_file : MD := (yX9_file, cX9_file, 6, (some .int), false)
theorem okX9_file : MOk mX9_file 3 := ⟨by decide +kernel, lw_g_in (t5_in (List.mem_of_getElem? (i := 101) rfl)) rfl, lw_g_in (t1_in (List.mem_of_getElem? (i := 6) rfl)) rfl, ⟨by decide +kernel, by decide +kernel, by decide +kernel⟩, by decide +kernel, fun h => absurd h (by decide)⟩
theorem inX9_file : Cond.instanceMethod mX9_file.1 ∈ lw_g := lw_g_in (t5_in (List.mem_of_getElem? (i := 99) rfl)) rfl
theorem seX9_file : Cond.selects mX9_file.1.cls mX9_file.1 mX9_file.1 ∈ lw_g := lw_g_in (t5_in (List.mem_of_getElem? (i := 100) rfl)) rfl
def mX9_aboutFile : MD := (yX9_aboutFile, cX9_aboutFile, 5, (some .int), false)
theorem okX9_aboutFile : MOk mX9_aboutFile 2 := ⟨by decide +kernel, lw_g_in (t5_in (List.mem_of_getElem? (i := 105) rfl)) rfl, lw_g_in (t1_in (List.mem_of_getElem? (i := 6) rfl)) rfl, ⟨by decide +kernel, by decide +kernel, by decide +kernel⟩, by decide +kernel, fun h => absurd h (by decide)⟩
theorem inX9_aboutFile : Cond.instanceMethod mX9_aboutFile.1 ∈ lw_g := lw_g_in (t5_in (List.mem_of_getElem? (i := 104) rfl)) rfl
theorem seX9_aboutFile : Cond.selects mX9_aboutFile.1.cls mX9_aboutFile.1 mX9_aboutFile.1 ∈ lw_g := lw_g_in (sels_in (List.mem_of_getElem? (i := 83) rfl)) rfl
theorem clL_7 : Cond.classLink RL 7 RX8 ∈ lw_g := lw_g_in (t1_in (List.mem_of_getElem? (i := 20) rfl)) rfl
theorem nwL_7 : NewL RL 7 8 := ⟨clL_7, lw_g_in (t1_in (List.mem_of_getElem? (i := 21) rfl)) rfl, lw_g_in (t1_in (List.mem_of_getElem? (i := 1) rfl)) rfl, by decide⟩
theorem mlL_9 : MLk RL 9 mX8_init.1 := Or.inl (lw_g_in (t1_in (List.mem_of_getElem? (i := 22) rfl)) rfl)
theorem oiX8_1 : Cond.methodLink RX8 1 objectInit ∈ lw_g := lw_g_in (t1_in (List.mem_of_getElem? (i := 25) rfl)) rfl
theorem clX8_9 : Cond.classLink RX8 9 RX1 ∈ lw_g := lw_g_in (t1_in (List.mem_of_getElem? (i := 28) rfl)) rfl
theorem nwX8_9 : NewL RX8 9 1 := ⟨clX8_9, lw_g_in (t1_in (List.mem_of_getElem? (i := 141) rfl)) rfl, lw_g_in (t1_in (List.mem_of_getElem? (i := 7) rfl)) rfl, by decide⟩
theorem clX8_18 : Cond.classLink RX8 18 RX7 ∈ lw_g := lw_g_in (t1_in (List.mem_of_getElem? (i := 30) rfl)) rfl
theorem nwX8_18 : NewL RX8 18 7 := ⟨clX8_18, lw_g_in (t1_in (List.mem_of_getElem? (i := 196) rfl)) rfl, lw_g_in (t1_in (List.mem_of_getElem? (i := 8) rfl)) rfl, by decide⟩
theorem clX8_24 : Cond.classLink RX8 24 RX6 ∈ lw_g := lw_g_in (t1_in (List.mem_of_getElem? (i := 32) rfl)) rfl
theorem nwX8_24 : NewL RX8 24 6 := ⟨clX8_24, lw_g_in (t1_in (List.mem_of_getElem? (i := 33) rfl)) rfl, lw_g_in (t1_in (List.mem_of_getElem? (i := 2) rfl)) rfl, by decide⟩
theorem mlX8_26 : MLk RX8 26 mX6_init.1 := Or.inr ⟨"VersionedRows", lw_n_in (t1_in (List.mem_of_getElem? (i := 34) rfl)) rfl⟩
theorem oiX6_3 : Cond.methodLink RX6 3 objectInit ∈ lw_g := lw_g_in (t1_in (List.mem_of_getElem? (i := 37) rfl)) rfl
theorem clX6_9 : Cond.classLink RX6 9 RX0 ∈ lw_g := lw_g_in (t1_in (List.mem_of_getElem? (i := 38) rfl)) rfl
theorem nwX6_9 : NewL RX6 9 0 := ⟨clX6_9, lw_g_in (t2_in (List.mem_of_getElem? (i := 24) rfl)) rfl, lw_g_in (t1_in (List.mem_of_getElem? (i := 9) rfl)) rfl, by decide⟩
theorem clX6_17 : Cond.classLink RX6 17 RJx4a65c ∈ lw_g := lw_g_in (t1_in (List.mem_of_getElem? (i := 40) rfl)) rfl
theorem nwX6_17 : NewL RX6 17 10 := ⟨clX6_17, lw_g_in (t1_in (List.mem_of_getElem? (i := 41) rfl)) rfl, lw_g_in (t1_in (List.mem_of_getElem? (i := 5) rfl)) rfl, by decide⟩
theorem mlX6_19 : MLk RX6 19 mJx4a65c_init_da8c8.1 := Or.inl (lw_g_in (t1_in (List.mem_of_getElem? (i := 42) rfl)) rfl)
theorem mlJx4a65c_1 : MLk RJx4a65c 1 mJxc12de_init_da8c8.1 := Or.inl (lw_g_in (t1_in (List.mem_of_getElem? (i := 45) rfl)) rfl)
theorem mlJxc12de_1 : MLk RJxc12de 1 mJxa1e45_init_da8c8.1 := Or.inl (lw_g_in (t1_in (List.mem_of_getElem? (i := 48) rfl)) rfl)
theorem oiJxa1e45_1 : Cond.methodLink RJxa1e45 1 objectInit ∈ lw_g := lw_g_in (t1_in (List.mem_of_getElem? (i := 51) rfl)) rfl
theorem mlL_13 : MLk RL 13 mX8_say.1 := Or.inl (lw_g_in (t1_in (List.mem_of_getElem? (i := 125) rfl)) rfl)
theorem mlX8_39 : MLk RX8 39 mX8_isName.1 := Or.inl (lw_g_in (t1_in (List.mem_of_getElem? (i := 129) rfl)) rfl)
theorem mlX8_43 : MLk RX8 43 mX8_partsOf.1 := Or.inl (lw_g_in (t1_in (List.mem_of_getElem? (i := 132) rfl)) rfl)
theorem mlX8_50 : MLk RX8 50 mX8_fits.1 := Or.inl (lw_g_in (t1_in (List.mem_of_getElem? (i := 135) rfl)) rfl)
theorem mlX8_68 : MLk RX8 68 mX1_isBool.1 := Or.inr ⟨"VersionedRows", lw_n_in (t1_in (List.mem_of_getElem? (i := 138) rfl)) rfl⟩
theorem mlX8_214 : MLk RX8 214 mX8_takesBools.1 := Or.inl (lw_g_in (t1_in (List.mem_of_getElem? (i := 143) rfl)) rfl)
theorem mlX8_54 : MLk RX8 54 mX1_nodesOf.1 := Or.inr ⟨"VersionedRows", lw_n_in (t1_in (List.mem_of_getElem? (i := 146) rfl)) rfl⟩
theorem mlX8_58 : MLk RX8 58 mX8_countsN.1 := Or.inl (lw_g_in (t1_in (List.mem_of_getElem? (i := 149) rfl)) rfl)
theorem mlX8_61 : MLk RX8 61 mX1_init.1 := Or.inr ⟨"VersionedRows", lw_n_in (t1_in (List.mem_of_getElem? (i := 152) rfl)) rfl⟩
theorem oiX1_3 : Cond.methodLink RX1 3 objectInit ∈ lw_g := lw_g_in (t1_in (List.mem_of_getElem? (i := 155) rfl)) rfl
theorem mlX1_25 : MLk RX1 25 mX1_nodesOf.1 := Or.inl (lw_g_in (t1_in (List.mem_of_getElem? (i := 156) rfl)) rfl)
theorem mlL_18 : MLk RL 18 mX8_index.1 := Or.inl (lw_g_in (t1_in (List.mem_of_getElem? (i := 177) rfl)) rfl)
theorem mlX8_64 : MLk RX8 64 mX8_topOfPile.1 := Or.inl (lw_g_in (t1_in (List.mem_of_getElem? (i := 181) rfl)) rfl)
theorem mlL_23 : MLk RL 23 mX8_begin.1 := Or.inl (lw_g_in (t1_in (List.mem_of_getElem? (i := 185) rfl)) rfl)
theorem mlX8_81 : MLk RX8 81 mX8_countOpen.1 := Or.inl (lw_g_in (t1_in (List.mem_of_getElem? (i := 189) rfl)) rfl)
theorem mlX8_217 : MLk RX8 217 mX7_isOpen.1 := Or.inr ⟨"VersionedRows", lw_n_in (t1_in (List.mem_of_getElem? (i := 193) rfl)) rfl⟩
theorem mlX8_85 : MLk RX8 85 mX7_init.1 := Or.inr ⟨"VersionedRows", lw_n_in (t1_in (List.mem_of_getElem? (i := 198) rfl)) rfl⟩
theorem oiX7_3 : Cond.methodLink RX7 3 objectInit ∈ lw_g := lw_g_in (t1_in (List.mem_of_getElem? (i := 201) rfl)) rfl
theorem clX7_19 : Cond.classLink RX7 19 RX3 ∈ lw_g := lw_g_in (t1_in (List.mem_of_getElem? (i := 202) rfl)) rfl
theorem nwX7_19 : NewL RX7 19 3 := ⟨clX7_19, lw_g_in (t2_in (List.mem_of_getElem? (i := 31) rfl)) rfl, lw_g_in (t1_in (List.mem_of_getElem? (i := 10) rfl)) rfl, by decide⟩
theorem mlL_27 : MLk RL 27 mX8_read.1 := Or.inl (lw_g_in (t1_in (List.mem_of_getElem? (i := 226) rfl)) rfl)
theorem mlX8_88 : MLk RX8 88 mX8_openOne.1 := Or.inl (lw_g_in (t1_in (List.mem_of_getElem? (i := 230) rfl)) rfl)
theorem mlX8_196 : MLk RX8 196 mX8_transactionOf.1 := Or.inl (lw_g_in (t1_in (List.mem_of_getElem? (i := 234) rfl)) rfl)
theorem mlX8_92 : MLk RX8 92 mX8_isKey.1 := Or.inl (lw_g_in (t1_in (List.mem_of_getElem? (i := 238) rfl)) rfl)
theorem mlX8_95 : MLk RX8 95 mX8_rowFor.1 := Or.inl (lw_g_in (t2_in (List.mem_of_getElem? (i := 1) rfl)) rfl)
theorem mlX8_233 : MLk RX8 233 mX6_rowAt.1 := Or.inr ⟨"VersionedRows", lw_n_in (t2_in (List.mem_of_getElem? (i := 5) rfl)) rfl⟩
theorem mlX6_54 : MLk RX6 54 mX6_seenRow.1 := Or.inl (lw_g_in (t2_in (List.mem_of_getElem? (i := 9) rfl)) rfl)
theorem mlX6_50 : MLk RX6 50 mX0_placeOf.1 := Or.inr ⟨"VersionedRows", lw_n_in (t2_in (List.mem_of_getElem? (i := 13) rfl)) rfl⟩
theorem coX0_36 : Cond.constantLong RX0 36 (-2147483648) ∈ lw_g := lw_g_in (t2_in (List.mem_of_getElem? (i := 16) rfl)) rfl
theorem mlX6_39 : MLk RX6 39 mX6_countBefore.1 := Or.inl (lw_g_in (t2_in (List.mem_of_getElem? (i := 17) rfl)) rfl)
theorem mlX6_46 : MLk RX6 46 mX0_isBefore.1 := Or.inr ⟨"VersionedRows", lw_n_in (t2_in (List.mem_of_getElem? (i := 21) rfl)) rfl⟩
theorem mlL_32 : MLk RL 32 mX8_write.1 := Or.inl (lw_g_in (t2_in (List.mem_of_getElem? (i := 26) rfl)) rfl)
theorem clX8_100 : Cond.classLink RX8 100 RX3 ∈ lw_g := lw_g_in (t2_in (List.mem_of_getElem? (i := 30) rfl)) rfl
theorem nwX8_100 : NewL RX8 100 3 := ⟨clX8_100, lw_g_in (t2_in (List.mem_of_getElem? (i := 31) rfl)) rfl, lw_g_in (t1_in (List.mem_of_getElem? (i := 10) rfl)) rfl, by decide⟩
theorem mlX8_110 : MLk RX8 110 mX3_init.1 := Or.inr ⟨"VersionedRows", lw_n_in (t2_in (List.mem_of_getElem? (i := 32) rfl)) rfl⟩
theorem oiX3_3 : Cond.methodLink RX3 3 objectInit ∈ lw_g := lw_g_in (t2_in (List.mem_of_getElem? (i := 35) rfl)) rfl
theorem mlX8_113 : MLk RX8 113 mX7_put.1 := Or.inr ⟨"VersionedRows", lw_n_in (t2_in (List.mem_of_getElem? (i := 52) rfl)) rfl⟩
theorem mlL_37 : MLk RL 37 mX8_remove.1 := Or.inl (lw_g_in (t2_in (List.mem_of_getElem? (i := 56) rfl)) rfl)
theorem mlL_41 : MLk RL 41 mX8_query.1 := Or.inl (lw_g_in (t2_in (List.mem_of_getElem? (i := 60) rfl)) rfl)
theorem mlX8_117 : MLk RX8 117 mX8_choosePlan.1 := Or.inl (lw_g_in (t2_in (List.mem_of_getElem? (i := 64) rfl)) rfl)
theorem clX8_186 : Cond.classLink RX8 186 RX2 ∈ lw_g := lw_g_in (t2_in (List.mem_of_getElem? (i := 68) rfl)) rfl
theorem nwX8_186 : NewL RX8 186 2 := ⟨clX8_186, lw_g_in (t2_in (List.mem_of_getElem? (i := 69) rfl)) rfl, lw_g_in (t1_in (List.mem_of_getElem? (i := 11) rfl)) rfl, by decide⟩
theorem mlX8_273 : MLk RX8 273 mX2_init.1 := Or.inr ⟨"VersionedRows", lw_n_in (t2_in (List.mem_of_getElem? (i := 70) rfl)) rfl⟩
theorem oiX2_3 : Cond.methodLink RX2 3 objectInit ∈ lw_g := lw_g_in (t2_in (List.mem_of_getElem? (i := 73) rfl)) rfl
theorem coX2_9 : Cond.constantLong RX2 9 (-2147483648) ∈ lw_g := lw_g_in (t2_in (List.mem_of_getElem? (i := 74) rfl)) rfl
theorem coX2_17 : Cond.constantLong RX2 17 (2147483647) ∈ lw_g := lw_g_in (t2_in (List.mem_of_getElem? (i := 75) rfl)) rfl
theorem mlX8_275 : MLk RX8 275 mX2_tellConjuncts.1 := Or.inr ⟨"VersionedRows", lw_n_in (t2_in (List.mem_of_getElem? (i := 92) rfl)) rfl⟩
theorem mlX2_35 : MLk RX2 35 mX2_tellConjuncts.1 := Or.inl (lw_g_in (t2_in (List.mem_of_getElem? (i := 95) rfl)) rfl)
theorem mlX2_42 : MLk RX2 42 mX2_hear.1 := Or.inl (lw_g_in (t2_in (List.mem_of_getElem? (i := 96) rfl)) rfl)
theorem mlX2_46 : MLk RX2 46 mX1_isConst.1 := Or.inr ⟨"VersionedRows", lw_n_in (t2_in (List.mem_of_getElem? (i := 100) rfl)) rfl⟩
theorem mlX2_50 : MLk RX2 50 mX1_areSame.1 := Or.inr ⟨"VersionedRows", lw_n_in (t2_in (List.mem_of_getElem? (i := 104) rfl)) rfl⟩
theorem mlX1_32 : MLk RX1 32 mX1_areSame.1 := Or.inl (lw_g_in (t2_in (List.mem_of_getElem? (i := 107) rfl)) rfl)
theorem mlX2_57 : MLk RX2 57 mX2_narrow.1 := Or.inl (lw_g_in (t2_in (List.mem_of_getElem? (i := 108) rfl)) rfl)
theorem mlX2_61 : MLk RX2 61 mJ9_max_f86c9.1 := Or.inl (lw_g_in (t2_in (List.mem_of_getElem? (i := 112) rfl)) rfl)
theorem mpX2_61 : Cond.methodLink RX2 61 mJ9_max_f86c9.1 ∈ lw_g := lw_g_in (t2_in (List.mem_of_getElem? (i := 112) rfl)) rfl
theorem mlX2_67 : MLk RX2 67 mJ9_min_f86c9.1 := Or.inl (lw_g_in (t2_in (List.mem_of_getElem? (i := 115) rfl)) rfl)
theorem mpX2_67 : Cond.methodLink RX2 67 mJ9_min_f86c9.1 ∈ lw_g := lw_g_in (t2_in (List.mem_of_getElem? (i := 115) rfl)) rfl
theorem mlX8_282 : MLk RX8 282 mX2_width.1 := Or.inr ⟨"VersionedRows", lw_n_in (t2_in (List.mem_of_getElem? (i := 118) rfl)) rfl⟩
theorem mlX8_124 : MLk RX8 124 mX8_countCandidates.1 := Or.inl (lw_g_in (t2_in (List.mem_of_getElem? (i := 122) rfl)) rfl)
theorem mlX8_286 : MLk RX8 286 mX6_countThere.1 := Or.inr ⟨"VersionedRows", lw_n_in (t2_in (List.mem_of_getElem? (i := 126) rfl)) rfl⟩
theorem mlX6_63 : MLk RX6 63 mX0_isWithin.1 := Or.inr ⟨"VersionedRows", lw_n_in (t2_in (List.mem_of_getElem? (i := 130) rfl)) rfl⟩
theorem mlX8_127 : MLk RX8 127 mX8_fillResult.1 := Or.inl (lw_g_in (t2_in (List.mem_of_getElem? (i := 134) rfl)) rfl)
theorem mlX8_290 : MLk RX8 290 mX1_isTrueOf.1 := Or.inr ⟨"VersionedRows", lw_n_in (t2_in (List.mem_of_getElem? (i := 138) rfl)) rfl⟩
theorem mlX1_47 : MLk RX1 47 mX1_numberOf.1 := Or.inl (lw_g_in (t2_in (List.mem_of_getElem? (i := 141) rfl)) rfl)
theorem mlX1_51 : MLk RX1 51 mX1_isTrueOf.1 := Or.inl (lw_g_in (t2_in (List.mem_of_getElem? (i := 144) rfl)) rfl)
theorem mlX1_55 : MLk RX1 55 mX3_startsWith.1 := Or.inr ⟨"VersionedRows", lw_n_in (t2_in (List.mem_of_getElem? (i := 145) rfl)) rfl⟩
theorem mlL_46 : MLk RL 46 mX8_commit.1 := Or.inl (lw_g_in (t2_in (List.mem_of_getElem? (i := 149) rfl)) rfl)
theorem mlX8_134 : MLk RX8 134 mX8_isTooLate.1 := Or.inl (lw_g_in (t2_in (List.mem_of_getElem? (i := 153) rfl)) rfl)
theorem mlX8_237 : MLk RX8 237 mX6_lastStampOf.1 := Or.inr ⟨"VersionedRows", lw_n_in (t2_in (List.mem_of_getElem? (i := 157) rfl)) rfl⟩
theorem coX6_62 : Cond.constant RX6 62 (2147483647) ∈ lw_g := lw_g_in (t2_in (List.mem_of_getElem? (i := 161) rfl)) rfl
theorem mlX8_145 : MLk RX8 145 mX8_batchSize.1 := Or.inl (lw_g_in (t2_in (List.mem_of_getElem? (i := 162) rfl)) rfl)
theorem mlX8_240 : MLk RX8 240 mX8_countIndexEntries.1 := Or.inl (lw_g_in (t2_in (List.mem_of_getElem? (i := 166) rfl)) rfl)
theorem mlX8_244 : MLk RX8 244 mX8_hasOwnValue.1 := Or.inl (lw_g_in (t2_in (List.mem_of_getElem? (i := 170) rfl)) rfl)
theorem mlX8_248 : MLk RX8 248 mX8_valueIn.1 := Or.inl (lw_g_in (t2_in (List.mem_of_getElem? (i := 174) rfl)) rfl)
theorem mlX8_252 : MLk RX8 252 mX1_numberOf.1 := Or.inr ⟨"VersionedRows", lw_n_in (t2_in (List.mem_of_getElem? (i := 178) rfl)) rfl⟩
theorem mlX8_149 : MLk RX8 149 mX6_hasRoomFor.1 := Or.inr ⟨"VersionedRows", lw_n_in (t2_in (List.mem_of_getElem? (i := 179) rfl)) rfl⟩
theorem mlX8_152 : MLk RX8 152 mX8_takeBatch.1 := Or.inl (lw_g_in (t2_in (List.mem_of_getElem? (i := 183) rfl)) rfl)
theorem clX8_256 : Cond.classLink RX8 256 RX0 ∈ lw_g := lw_g_in (t2_in (List.mem_of_getElem? (i := 187) rfl)) rfl
theorem nwX8_256 : NewL RX8 256 0 := ⟨clX8_256, lw_g_in (t2_in (List.mem_of_getElem? (i := 24) rfl)) rfl, lw_g_in (t1_in (List.mem_of_getElem? (i := 9) rfl)) rfl, by decide⟩
theorem mlX8_258 : MLk RX8 258 mX0_init.1 := Or.inr ⟨"VersionedRows", lw_n_in (t2_in (List.mem_of_getElem? (i := 188) rfl)) rfl⟩
theorem oiX0_3 : Cond.methodLink RX0 3 objectInit ∈ lw_g := lw_g_in (t2_in (List.mem_of_getElem? (i := 191) rfl)) rfl
theorem mlX0_21 : MLk RX0 21 mX0_placeOf.1 := Or.inl (lw_g_in (t2_in (List.mem_of_getElem? (i := 192) rfl)) rfl)
theorem mlX8_261 : MLk RX8 261 mX6_add.1 := Or.inr ⟨"VersionedRows", lw_n_in (t2_in (List.mem_of_getElem? (i := 227) rfl)) rfl⟩
theorem mlX6_28 : MLk RX6 28 mX6_hasRoomFor.1 := Or.inl (lw_g_in (t2_in (List.mem_of_getElem? (i := 231) rfl)) rfl)
theorem mlX8_265 : MLk RX8 265 mX8_addIndexEntries.1 := Or.inl (lw_g_in (t2_in (List.mem_of_getElem? (i := 232) rfl)) rfl)
theorem mlX8_159 : MLk RX8 159 mX8_flushAndMerge.1 := Or.inl (lw_g_in (t2_in (List.mem_of_getElem? (i := 236) rfl)) rfl)
theorem mlX8_165 : MLk RX8 165 mX6_writeMemoryOut.1 := Or.inr ⟨"VersionedRows", lw_n_in (t3_in (List.mem_of_getElem? (i := 0) rfl)) rfl⟩
theorem mlX6_71 : MLk RX6 71 mX6_newFile.1 := Or.inl (lw_g_in (t3_in (List.mem_of_getElem? (i := 4) rfl)) rfl)
theorem clX6_76 : Cond.classLink RX6 76 RX5 ∈ lw_g := lw_g_in (t3_in (List.mem_of_getElem? (i := 8) rfl)) rfl
theorem nwX6_76 : NewL RX6 76 5 := ⟨clX6_76, lw_g_in (t3_in (List.mem_of_getElem? (i := 9) rfl)) rfl, lw_g_in (t1_in (List.mem_of_getElem? (i := 13) rfl)) rfl, by decide⟩
theorem mlX6_84 : MLk RX6 84 mX5_init.1 := Or.inr ⟨"VersionedRows", lw_n_in (t3_in (List.mem_of_getElem? (i := 10) rfl)) rfl⟩
theorem oiX5_3 : Cond.methodLink RX5 3 objectInit ∈ lw_g := lw_g_in (t3_in (List.mem_of_getElem? (i := 13) rfl)) rfl
theorem mlX6_87 : MLk RX6 87 mJx4a65c_add_9ea2d.1 := Or.inl (lw_g_in (t3_in (List.mem_of_getElem? (i := 35) rfl)) rfl)
theorem mlJx4a65c_131 : MLk RJx4a65c 131 mJx4a65c_add_72be8.1 := Or.inl (lw_g_in (t3_in (List.mem_of_getElem? (i := 39) rfl)) rfl)
theorem mlJx4a65c_129 : MLk RJx4a65c 129 mJx4a65c_grow_d5877.1 := Or.inl (lw_g_in (t3_in (List.mem_of_getElem? (i := 43) rfl)) rfl)
theorem mlJx4a65c_69 : MLk RJx4a65c 69 mJx4a65c_grow_92f84.1 := Or.inl (lw_g_in (t3_in (List.mem_of_getElem? (i := 47) rfl)) rfl)
theorem mlJx4a65c_73 : MLk RJx4a65c 73 mJ8_newLength_cabcc.1 := Or.inl (lw_g_in (t3_in (List.mem_of_getElem? (i := 51) rfl)) rfl)
theorem mlJ8_194 : MLk RJ8 194 mJ9_max_7cf53.1 := Or.inl (lw_g_in (t3_in (List.mem_of_getElem? (i := 54) rfl)) rfl)
theorem mpJ8_194 : Cond.methodLink RJ8 194 mJ9_max_7cf53.1 ∈ lw_g := lw_g_in (t3_in (List.mem_of_getElem? (i := 54) rfl)) rfl
theorem coJ8_200 : Cond.constant RJ8 200 (2147483639) ∈ lw_g := lw_g_in (t3_in (List.mem_of_getElem? (i := 57) rfl)) rfl
theorem mlJ8_201 : MLk RJ8 201 mJ8_hugeLength_7cf53.1 := Or.inl (lw_g_in (t3_in (List.mem_of_getElem? (i := 58) rfl)) rfl)
theorem mlJx4a65c_66 : MLk RJx4a65c 66 mJ7_copyOf_1904c.1 := Or.inl (lw_g_in (t3_in (List.mem_of_getElem? (i := 61) rfl)) rfl)
theorem mlJ7_300 : MLk RJ7 300 mJ7_copyOf_6403c.1 := Or.inl (lw_g_in (t3_in (List.mem_of_getElem? (i := 79) rfl)) rfl)
theorem clJ7_110 : Cond.classLink RJ7 110 "[Ljava/lang/Object;" ∈ lw_g := lw_g_in (t3_in (List.mem_of_getElem? (i := 82) rfl)) rfl
theorem clJ7_2 : Cond.classLink RJ7 2 "java/lang/Object" ∈ lw_g := lw_g_in (t3_in (List.mem_of_getElem? (i := 84) rfl)) rfl
theorem mlJ7_304 : MLk RJ7 304 mJ9_min_7cf53.1 := Or.inl (lw_g_in (t3_in (List.mem_of_getElem? (i := 85) rfl)) rfl)
theorem mpJ7_304 : Cond.methodLink RJ7 304 mJ9_min_7cf53.1 ∈ lw_g := lw_g_in (t3_in (List.mem_of_getElem? (i := 85) rfl)) rfl
theorem mlJx4a65c_79 : MLk RJx4a65c 79 mJ9_max_7cf53.1 := Or.inl (lw_g_in (t3_in (List.mem_of_getElem? (i := 91) rfl)) rfl)
theorem mpJx4a65c_79 : Cond.methodLink RJx4a65c 79 mJ9_max_7cf53.1 ∈ lw_g := lw_g_in (t3_in (List.mem_of_getElem? (i := 91) rfl)) rfl
theorem clJx4a65c_7 : Cond.classLink RJx4a65c 7 "java/lang/Object" ∈ lw_g := lw_g_in (t3_in (List.mem_of_getElem? (i := 92) rfl)) rfl
theorem mlX6_75 : MLk RX6 75 mX5_append.1 := Or.inr ⟨"VersionedRows", lw_n_in (t3_in (List.mem_of_getElem? (i := 93) rfl)) rfl⟩
theorem mlX8_171 : MLk RX8 171 mX8_horizon.1 := Or.inl (lw_g_in (t3_in (List.mem_of_getElem? (i := 97) rfl)) rfl)
theorem mlX8_220 : MLk RX8 220 mJ9_min_7cf53.1 := Or.inl (lw_g_in (t3_in (List.mem_of_getElem? (i := 101) rfl)) rfl)
theorem mpX8_220 : Cond.methodLink RX8 220 mJ9_min_7cf53.1 ∈ lw_g := lw_g_in (t3_in (List.mem_of_getElem? (i := 101) rfl)) rfl
theorem coX8_269 : Cond.constant RX8 269 (1000000) ∈ lw_g := lw_g_in (t3_in (List.mem_of_getElem? (i := 102) rfl)) rfl
theorem mlX8_270 : MLk RX8 270 mX6_overfullLevel.1 := Or.inr ⟨"VersionedRows", lw_n_in (t3_in (List.mem_of_getElem? (i := 103) rfl)) rfl⟩
theorem mlX6_102 : MLk RX6 102 mX6_countFiles.1 := Or.inl (lw_g_in (t3_in (List.mem_of_getElem? (i := 107) rfl)) rfl)
theorem mlX6_91 : MLk RX6 91 mJx4a65c_size_8abf5.1 := Or.inl (lw_g_in (t3_in (List.mem_of_getElem? (i := 111) rfl)) rfl)
theorem mlX6_95 : MLk RX6 95 mJx4a65c_get_915e3.1 := Or.inl (lw_g_in (t3_in (List.mem_of_getElem? (i := 115) rfl)) rfl)
theorem mlJx4a65c_118 : MLk RJx4a65c 118 mJ15_checkIndex_7cf53.1 := Or.inl (lw_g_in (t3_in (List.mem_of_getElem? (i := 119) rfl)) rfl)
theorem mlJ15_105 : MLk RJ15 105 mJ3_checkIndex_8e157.1 := Or.inl (lw_g_in (t3_in (List.mem_of_getElem? (i := 122) rfl)) rfl)
theorem mlJx4a65c_123 : MLk RJx4a65c 123 mJx4a65c_elementData_915e3.1 := Or.inl (lw_g_in (t3_in (List.mem_of_getElem? (i := 125) rfl)) rfl)
theorem mlX8_174 : MLk RX8 174 mX6_mergeDown.1 := Or.inr ⟨"VersionedRows", lw_n_in (t3_in (List.mem_of_getElem? (i := 129) rfl)) rfl⟩
theorem mlX6_106 : MLk RX6 106 mX6_fileOn.1 := Or.inl (lw_g_in (t3_in (List.mem_of_getElem? (i := 133) rfl)) rfl)
theorem mlX6_110 : MLk RX6 110 mX6_retire.1 := Or.inl (lw_g_in (t3_in (List.mem_of_getElem? (i := 137) rfl)) rfl)
theorem mlX6_118 : MLk RX6 118 mX5_meets.1 := Or.inr ⟨"VersionedRows", lw_n_in (t3_in (List.mem_of_getElem? (i := 141) rfl)) rfl⟩
theorem mlX6_126 : MLk RX6 126 mJx4a65c_remove_915e3.1 := Or.inl (lw_g_in (t3_in (List.mem_of_getElem? (i := 145) rfl)) rfl)
theorem mlJx4a65c_144 : MLk RJx4a65c 144 mJx4a65c_fastRemove_b59b0.1 := Or.inl (lw_g_in (t3_in (List.mem_of_getElem? (i := 149) rfl)) rfl)
theorem mlX6_114 : MLk RX6 114 mX6_moveRetired.1 := Or.inl (lw_g_in (t3_in (List.mem_of_getElem? (i := 154) rfl)) rfl)
theorem clX6_129 : Cond.classLink RX6 129 RX4 ∈ lw_g := lw_g_in (t3_in (List.mem_of_getElem? (i := 158) rfl)) rfl
theorem nwX6_129 : NewL RX6 129 4 := ⟨clX6_129, lw_g_in (t3_in (List.mem_of_getElem? (i := 159) rfl)) rfl, lw_g_in (t1_in (List.mem_of_getElem? (i := 19) rfl)) rfl, by decide⟩
theorem mlX6_131 : MLk RX6 131 mX4_init.1 := Or.inr ⟨"VersionedRows", lw_n_in (t3_in (List.mem_of_getElem? (i := 160) rfl)) rfl⟩
theorem oiX4_1 : Cond.methodLink RX4 1 objectInit ∈ lw_g := lw_g_in (t3_in (List.mem_of_getElem? (i := 163) rfl)) rfl
theorem mlX6_134 : MLk RX6 134 mX0_isInRetiredFile.1 := Or.inr ⟨"VersionedRows", lw_n_in (t3_in (List.mem_of_getElem? (i := 177) rfl)) rfl⟩
theorem mlX6_138 : MLk RX6 138 mX4_keeps.1 := Or.inr ⟨"VersionedRows", lw_n_in (t3_in (List.mem_of_getElem? (i := 181) rfl)) rfl⟩
theorem mlX6_142 : MLk RX6 142 mX5_isFullBefore.1 := Or.inr ⟨"VersionedRows", lw_n_in (t3_in (List.mem_of_getElem? (i := 185) rfl)) rfl⟩
theorem mlL_50 : MLk RL 50 mX8_tear.1 := Or.inl (lw_g_in (t3_in (List.mem_of_getElem? (i := 189) rfl)) rfl)
theorem mlX8_162 : MLk RX8 162 mX8_loseOpenOnes.1 := Or.inl (lw_g_in (t3_in (List.mem_of_getElem? (i := 193) rfl)) rfl)
theorem mlL_55 : MLk RL 55 mX8_abort.1 := Or.inl (lw_g_in (t3_in (List.mem_of_getElem? (i := 197) rfl)) rfl)
theorem mlL_60 : MLk RL 60 mX8_flush.1 := Or.inl (lw_g_in (t3_in (List.mem_of_getElem? (i := 201) rfl)) rfl)
theorem mlL_64 : MLk RL 64 mX8_compact.1 := Or.inl (lw_g_in (t3_in (List.mem_of_getElem? (i := 205) rfl)) rfl)
theorem mlX8_168 : MLk RX8 168 mX6_countFiles.1 := Or.inr ⟨"VersionedRows", lw_n_in (t3_in (List.mem_of_getElem? (i := 209) rfl)) rfl⟩
theorem mlL_68 : MLk RL 68 mX8_crash.1 := Or.inl (lw_g_in (t3_in (List.mem_of_getElem? (i := 210) rfl)) rfl)
theorem mlL_72 : MLk RL 72 mX8_result.1 := Or.inl (lw_g_in (t3_in (List.mem_of_getElem? (i := 214) rfl)) rfl)
theorem mlL_76 : MLk RL 76 mX8_plan.1 := Or.inl (lw_g_in (t3_in (List.mem_of_getElem? (i := 218) rfl)) rfl)
theorem coX8_194 : Cond.constantLong RX8 194 (-1) ∈ lw_g := lw_g_in (t3_in (List.mem_of_getElem? (i := 222) rfl)) rfl
theorem mlL_81 : MLk RL 81 mX8_state.1 := Or.inl (lw_g_in (t3_in (List.mem_of_getElem? (i := 223) rfl)) rfl)
theorem mlL_85 : MLk RL 85 mX8_about.1 := Or.inl (lw_g_in (t3_in (List.mem_of_getElem? (i := 227) rfl)) rfl)
theorem mlX8_202 : MLk RX8 202 mX8_typeOfTop.1 := Or.inl (lw_g_in (t3_in (List.mem_of_getElem? (i := 231) rfl)) rfl)
theorem mlL_89 : MLk RL 89 mX8_files.1 := Or.inl (lw_g_in (t3_in (List.mem_of_getElem? (i := 235) rfl)) rfl)
theorem mlL_93 : MLk RL 93 mX8_file.1 := Or.inl (lw_g_in (t3_in (List.mem_of_getElem? (i := 239) rfl)) rfl)
theorem mlX8_205 : MLk RX8 205 mX6_fileOn.1 := Or.inr ⟨"VersionedRows", lw_n_in (t4_in (List.mem_of_getElem? (i := 3) rfl)) rfl⟩
theorem mlX8_209 : MLk RX8 209 mX5_tell.1 := Or.inr ⟨"VersionedRows", lw_n_in (t4_in (List.mem_of_getElem? (i := 4) rfl)) rfl⟩
theorem clL_10 : Cond.classLink RL 10 RX9 ∈ lw_g := lw_g_in (t4_in (List.mem_of_getElem? (i := 8) rfl)) rfl
theorem nwL_10 : NewL RL 10 9 := ⟨clL_10, lw_g_in (t4_in (List.mem_of_getElem? (i := 9) rfl)) rfl, lw_g_in (t1_in (List.mem_of_getElem? (i := 6) rfl)) rfl, by decide⟩
theorem mlL_12 : MLk RL 12 mX9_init.1 := Or.inl (lw_g_in (t4_in (List.mem_of_getElem? (i := 10) rfl)) rfl)
theorem oiX9_1 : Cond.methodLink RX9 1 objectInit ∈ lw_g := lw_g_in (t4_in (List.mem_of_getElem? (i := 13) rfl)) rfl
theorem mlL_17 : MLk RL 17 mX9_say.1 := Or.inl (lw_g_in (t4_in (List.mem_of_getElem? (i := 129) rfl)) rfl)
theorem mlX9_81 : MLk RX9 81 mX9_isName.1 := Or.inl (lw_g_in (t4_in (List.mem_of_getElem? (i := 133) rfl)) rfl)
theorem mlX9_88 : MLk RX9 88 mX9_needs.1 := Or.inl (lw_g_in (t4_in (List.mem_of_getElem? (i := 136) rfl)) rfl)
theorem mlL_22 : MLk RL 22 mX9_index.1 := Or.inl (lw_g_in (t4_in (List.mem_of_getElem? (i := 139) rfl)) rfl)
theorem mlL_26 : MLk RL 26 mX9_begin.1 := Or.inl (lw_g_in (t4_in (List.mem_of_getElem? (i := 143) rfl)) rfl)
theorem mlX9_119 : MLk RX9 119 mX9_opens.1 := Or.inl (lw_g_in (t4_in (List.mem_of_getElem? (i := 147) rfl)) rfl)
theorem mlL_31 : MLk RL 31 mX9_read.1 := Or.inl (lw_g_in (t4_in (List.mem_of_getElem? (i := 151) rfl)) rfl)
theorem mlX9_123 : MLk RX9 123 mX9_open.1 := Or.inl (lw_g_in (t4_in (List.mem_of_getElem? (i := 155) rfl)) rfl)
theorem mlX9_126 : MLk RX9 126 mX9_isKey.1 := Or.inl (lw_g_in (t4_in (List.mem_of_getElem? (i := 159) rfl)) rfl)
theorem mlX9_129 : MLk RX9 129 mX9_rowFor.1 := Or.inl (lw_g_in (t4_in (List.mem_of_getElem? (i := 162) rfl)) rfl)
theorem mlX9_113 : MLk RX9 113 mX9_rowAt.1 := Or.inl (lw_g_in (t4_in (List.mem_of_getElem? (i := 166) rfl)) rfl)
theorem mlX9_109 : MLk RX9 109 mX9_seen.1 := Or.inl (lw_g_in (t4_in (List.mem_of_getElem? (i := 170) rfl)) rfl)
theorem mlL_36 : MLk RL 36 mX9_write.1 := Or.inl (lw_g_in (t4_in (List.mem_of_getElem? (i := 174) rfl)) rfl)
theorem mlL_40 : MLk RL 40 mX9_remove.1 := Or.inl (lw_g_in (t4_in (List.mem_of_getElem? (i := 178) rfl)) rfl)
theorem mlL_49 : MLk RL 49 mX9_commit.1 := Or.inl (lw_g_in (t4_in (List.mem_of_getElem? (i := 182) rfl)) rfl)
theorem mlX9_142 : MLk RX9 142 mX9_beaten.1 := Or.inl (lw_g_in (t4_in (List.mem_of_getElem? (i := 186) rfl)) rfl)
theorem mlX9_145 : MLk RX9 145 mX9_reads.1 := Or.inl (lw_g_in (t4_in (List.mem_of_getElem? (i := 190) rfl)) rfl)
theorem mlX9_138 : MLk RX9 138 mX9_batch.1 := Or.inl (lw_g_in (t4_in (List.mem_of_getElem? (i := 194) rfl)) rfl)
theorem mlX9_132 : MLk RX9 132 mX9_value.1 := Or.inl (lw_g_in (t4_in (List.mem_of_getElem? (i := 198) rfl)) rfl)
theorem mlX9_92 : MLk RX9 92 mX9_starts.1 := Or.inl (lw_g_in (t4_in (List.mem_of_getElem? (i := 202) rfl)) rfl)
theorem mlX9_96 : MLk RX9 96 mX9_two.1 := Or.inl (lw_g_in (t4_in (List.mem_of_getElem? (i := 205) rfl)) rfl)
theorem mlX9_134 : MLk RX9 134 mX9_entry.1 := Or.inl (lw_g_in (t4_in (List.mem_of_getElem? (i := 208) rfl)) rfl)
theorem mlX9_148 : MLk RX9 148 mX9_comes.1 := Or.inl (lw_g_in (t4_in (List.mem_of_getElem? (i := 212) rfl)) rfl)
theorem mlX9_152 : MLk RX9 152 mX9_inFile.1 := Or.inl (lw_g_in (t4_in (List.mem_of_getElem? (i := 216) rfl)) rfl)
theorem mlX9_155 : MLk RX9 155 mX9_flush.1 := Or.inl (lw_g_in (t4_in (List.mem_of_getElem? (i := 220) rfl)) rfl)
theorem mlX9_170 : MLk RX9 170 mX9_addFile.1 := Or.inl (lw_g_in (t4_in (List.mem_of_getElem? (i := 224) rfl)) rfl)
theorem mlX9_158 : MLk RX9 158 mX9_settle.1 := Or.inl (lw_g_in (t4_in (List.mem_of_getElem? (i := 228) rfl)) rfl)
theorem mlX9_173 : MLk RX9 173 mX9_files.1 := Or.inl (lw_g_in (t4_in (List.mem_of_getElem? (i := 232) rfl)) rfl)
theorem mlX9_175 : MLk RX9 175 mX9_compacts.1 := Or.inl (lw_g_in (t4_in (List.mem_of_getElem? (i := 236) rfl)) rfl)
theorem mlX9_191 : MLk RX9 191 mX9_meet.1 := Or.inl (lw_g_in (t5_in (List.mem_of_getElem? (i := 0) rfl)) rfl)
theorem mlX9_185 : MLk RX9 185 mX9_end.1 := Or.inl (lw_g_in (t5_in (List.mem_of_getElem? (i := 4) rfl)) rfl)
theorem mlX9_182 : MLk RX9 182 mX9_before.1 := Or.inl (lw_g_in (t5_in (List.mem_of_getElem? (i := 8) rfl)) rfl)
theorem mlX9_178 : MLk RX9 178 mX9_places.1 := Or.inl (lw_g_in (t5_in (List.mem_of_getElem? (i := 12) rfl)) rfl)
theorem mlX9_194 : MLk RX9 194 mX9_dropFile.1 := Or.inl (lw_g_in (t5_in (List.mem_of_getElem? (i := 16) rfl)) rfl)
theorem mlX9_197 : MLk RX9 197 mX9_sort.1 := Or.inl (lw_g_in (t5_in (List.mem_of_getElem? (i := 20) rfl)) rfl)
theorem mlX9_200 : MLk RX9 200 mX9_merge.1 := Or.inl (lw_g_in (t5_in (List.mem_of_getElem? (i := 24) rfl)) rfl)
theorem mlX9_203 : MLk RX9 203 mX9_horizon.1 := Or.inl (lw_g_in (t5_in (List.mem_of_getElem? (i := 28) rfl)) rfl)
theorem mlX9_206 : MLk RX9 206 mX9_clean.1 := Or.inl (lw_g_in (t5_in (List.mem_of_getElem? (i := 32) rfl)) rfl)
theorem mlL_54 : MLk RL 54 mX9_tear.1 := Or.inl (lw_g_in (t5_in (List.mem_of_getElem? (i := 36) rfl)) rfl)
theorem mlX9_161 : MLk RX9 161 mX9_crash.1 := Or.inl (lw_g_in (t5_in (List.mem_of_getElem? (i := 40) rfl)) rfl)
theorem mlL_59 : MLk RL 59 mX9_abort.1 := Or.inl (lw_g_in (t5_in (List.mem_of_getElem? (i := 44) rfl)) rfl)
theorem mlL_71 : MLk RL 71 mX9_crash.1 := Or.inl (lw_g_in (t5_in (List.mem_of_getElem? (i := 48) rfl)) rfl)
theorem mlL_63 : MLk RL 63 mX9_flush.1 := Or.inl (lw_g_in (t5_in (List.mem_of_getElem? (i := 49) rfl)) rfl)
theorem mlL_92 : MLk RL 92 mX9_files.1 := Or.inl (lw_g_in (t5_in (List.mem_of_getElem? (i := 50) rfl)) rfl)
theorem mlL_67 : MLk RL 67 mX9_compact.1 := Or.inl (lw_g_in (t5_in (List.mem_of_getElem? (i := 51) rfl)) rfl)
theorem mlL_45 : MLk RL 45 mX9_query.1 := Or.inl (lw_g_in (t5_in (List.mem_of_getElem? (i := 55) rfl)) rfl)
theorem mlX9_245 : MLk RX9 245 mX9_conjuncts.1 := Or.inl (lw_g_in (t5_in (List.mem_of_getElem? (i := 59) rfl)) rfl)
theorem coX9_227 : Cond.constantLong RX9 227 (-2147483648) ∈ lw_g := lw_g_in (t5_in (List.mem_of_getElem? (i := 63) rfl)) rfl
theorem coX9_233 : Cond.constantLong RX9 233 (2147483647) ∈ lw_g := lw_g_in (t5_in (List.mem_of_getElem? (i := 64) rfl)) rfl
theorem mlX9_220 : MLk RX9 220 mX9_from.1 := Or.inl (lw_g_in (t5_in (List.mem_of_getElem? (i := 65) rfl)) rfl)
theorem mlX9_235 : MLk RX9 235 mX9_conjunct.1 := Or.inl (lw_g_in (t5_in (List.mem_of_getElem? (i := 69) rfl)) rfl)
theorem mlX9_223 : MLk RX9 223 mX9_same.1 := Or.inl (lw_g_in (t5_in (List.mem_of_getElem? (i := 73) rfl)) rfl)
theorem mlX9_229 : MLk RX9 229 mX9_bound.1 := Or.inl (lw_g_in (t5_in (List.mem_of_getElem? (i := 77) rfl)) rfl)
theorem mlL_75 : MLk RL 75 mX9_result.1 := Or.inl (lw_g_in (t5_in (List.mem_of_getElem? (i := 81) rfl)) rfl)
theorem mlL_80 : MLk RL 80 mX9_plan.1 := Or.inl (lw_g_in (t5_in (List.mem_of_getElem? (i := 85) rfl)) rfl)
theorem coX9_255 : Cond.constantLong RX9 255 (-1) ∈ lw_g := lw_g_in (t5_in (List.mem_of_getElem? (i := 89) rfl)) rfl
theorem mlL_84 : MLk RL 84 mX9_state.1 := Or.inl (lw_g_in (t5_in (List.mem_of_getElem? (i := 90) rfl)) rfl)
theorem mlL_88 : MLk RL 88 mX9_about.1 := Or.inl (lw_g_in (t5_in (List.mem_of_getElem? (i := 94) rfl)) rfl)
theorem mlL_96 : MLk RL 96 mX9_file.1 := Or.inl (lw_g_in (t5_in (List.mem_of_getElem? (i := 98) rfl)) rfl)
theorem mlX9_257 : MLk RX9 257 mX9_aboutFile.1 := Or.inl (lw_g_in (t5_in (List.mem_of_getElem? (i := 102) rfl)) rfl)
theorem math_ini : Cond.initialized "java/lang/Math" ∈ lw_g := lw_g_in (t1_in (List.mem_of_getElem? (i := 12) rfl)) rfl
theorem oi_in : Cond.instanceMethod objectInit ∈ lw_g := lw_g_in (t1_in (List.mem_of_getElem? (i := 26) rfl)) rfl
theorem oi_code : Cond.code objectInit ⟨#[0xb1]⟩ 1 none ∈ lw_g := lw_g_in (t1_in (List.mem_of_getElem? (i := 27) rfl)) rfl
