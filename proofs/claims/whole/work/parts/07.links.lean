def mX0_init : vMI := (yX0_init, cX0_init, 2, none, { frames := 1, cells := 8, slots := 498, locals := 20 })
set_option maxRecDepth 100000 in
theorem okX0_init : MOk mX0_init 1 := ⟨gat 144 (by decide +kernel) (by decide +kernel), gat 49 (by decide +kernel) (by decide +kernel), by decide +kernel, by decide +kernel, by decide +kernel, by decide +kernel⟩
set_option maxRecDepth 100000 in
theorem imX0_init : Cond.instanceMethod (iy mX0_init) ∈ gTbl := gat 143 (by decide +kernel) (by decide +kernel)
def mX0_has : vMI := (yX0_has, cX0_has, 2, (some .boolean), { frames := 1, cells := 0, slots := 0, locals := 22 })
set_option maxRecDepth 100000 in
theorem okX0_has : MOk mX0_has 1 := ⟨gat 435 (by decide +kernel) (by decide +kernel), gat 49 (by decide +kernel) (by decide +kernel), by decide +kernel, by decide +kernel, by decide +kernel, by decide +kernel⟩
set_option maxRecDepth 100000 in
theorem imX0_has : Cond.instanceMethod (iy mX0_has) ∈ gTbl := gat 433 (by decide +kernel) (by decide +kernel)
set_option maxRecDepth 100000 in
theorem seX0_has : Cond.selects (iy mX0_has).cls (iy mX0_has) (iy mX0_has) ∈ gTbl := gat 434 (by decide +kernel) (by decide +kernel)
def mX0_addIce : vMI := (yX0_addIce, cX0_addIce, 5, (some .int), { frames := 4, cells := 0, slots := 0, locals := 95 })
set_option maxRecDepth 100000 in
theorem okX0_addIce : MOk mX0_addIce 4 := ⟨gat 418 (by decide +kernel) (by decide +kernel), gat 49 (by decide +kernel) (by decide +kernel), by decide +kernel, by decide +kernel, by decide +kernel, by decide +kernel⟩
set_option maxRecDepth 100000 in
theorem imX0_addIce : Cond.instanceMethod (iy mX0_addIce) ∈ gTbl := gat 416 (by decide +kernel) (by decide +kernel)
set_option maxRecDepth 100000 in
theorem seX0_addIce : Cond.selects (iy mX0_addIce).cls (iy mX0_addIce) (iy mX0_addIce) ∈ gTbl := gat 417 (by decide +kernel) (by decide +kernel)
def mX0_addFlood : vMI := (yX0_addFlood, cX0_addFlood, 2, (some .int), { frames := 4, cells := 0, slots := 0, locals := 95 })
set_option maxRecDepth 100000 in
theorem okX0_addFlood : MOk mX0_addFlood 1 := ⟨gat 427 (by decide +kernel) (by decide +kernel), gat 49 (by decide +kernel) (by decide +kernel), by decide +kernel, by decide +kernel, by decide +kernel, by decide +kernel⟩
set_option maxRecDepth 100000 in
theorem imX0_addFlood : Cond.instanceMethod (iy mX0_addFlood) ∈ gTbl := gat 425 (by decide +kernel) (by decide +kernel)
set_option maxRecDepth 100000 in
theorem seX0_addFlood : Cond.selects (iy mX0_addFlood).cls (iy mX0_addFlood) (iy mX0_addFlood) ∈ gTbl := gat 426 (by decide +kernel) (by decide +kernel)
def mX0_spreadAll : vMI := (yX0_spreadAll, cX0_spreadAll, 2, none, { frames := 4, cells := 0, slots := 0, locals := 95 })
set_option maxRecDepth 100000 in
theorem okX0_spreadAll : MOk mX0_spreadAll 0 := ⟨gat 360 (by decide +kernel) (by decide +kernel), gat 49 (by decide +kernel) (by decide +kernel), by decide +kernel, by decide +kernel, by decide +kernel, by decide +kernel⟩
set_option maxRecDepth 100000 in
theorem imX0_spreadAll : Cond.instanceMethod (iy mX0_spreadAll) ∈ gTbl := gat 358 (by decide +kernel) (by decide +kernel)
set_option maxRecDepth 100000 in
theorem seX0_spreadAll : Cond.selects (iy mX0_spreadAll).cls (iy mX0_spreadAll) (iy mX0_spreadAll) ∈ gTbl := gat 359 (by decide +kernel) (by decide +kernel)
def mX0_spread : vMI := (yX0_spread, cX0_spread, 5, none, { frames := 3, cells := 0, slots := 0, locals := 71 })
set_option maxRecDepth 100000 in
theorem okX0_spread : MOk mX0_spread 1 := ⟨gat 364 (by decide +kernel) (by decide +kernel), gat 49 (by decide +kernel) (by decide +kernel), by decide +kernel, by decide +kernel, by decide +kernel, by decide +kernel⟩
set_option maxRecDepth 100000 in
theorem imX0_spread : Cond.instanceMethod (iy mX0_spread) ∈ gTbl := gat 363 (by decide +kernel) (by decide +kernel)
set_option maxRecDepth 100000 in
theorem seX0_spread : Cond.selects (iy mX0_spread).cls (iy mX0_spread) (iy mX0_spread) ∈ gTbl := gat 1 (by decide +kernel) (by decide +kernel)
def mX0_reach : vMI := (yX0_reach, cX0_reach, 4, none, { frames := 1, cells := 0, slots := 0, locals := 22 })
set_option maxRecDepth 100000 in
theorem okX0_reach : MOk mX0_reach 3 := ⟨gat 372 (by decide +kernel) (by decide +kernel), gat 49 (by decide +kernel) (by decide +kernel), by decide +kernel, by decide +kernel, by decide +kernel, by decide +kernel⟩
set_option maxRecDepth 100000 in
theorem imX0_reach : Cond.instanceMethod (iy mX0_reach) ∈ gTbl := gat 371 (by decide +kernel) (by decide +kernel)
set_option maxRecDepth 100000 in
theorem seX0_reach : Cond.selects (iy mX0_reach).cls (iy mX0_reach) (iy mX0_reach) ∈ gTbl := gat 2 (by decide +kernel) (by decide +kernel)
def mX0_findCourse : vMI := (yX0_findCourse, cX0_findCourse, 7, (some .int), { frames := 2, cells := 0, slots := 0, locals := 45 })
set_option maxRecDepth 100000 in
theorem okX0_findCourse : MOk mX0_findCourse 2 := ⟨gat 384 (by decide +kernel) (by decide +kernel), gat 49 (by decide +kernel) (by decide +kernel), by decide +kernel, by decide +kernel, by decide +kernel, by decide +kernel⟩
set_option maxRecDepth 100000 in
theorem imX0_findCourse : Cond.instanceMethod (iy mX0_findCourse) ∈ gTbl := gat 383 (by decide +kernel) (by decide +kernel)
set_option maxRecDepth 100000 in
theorem seX0_findCourse : Cond.selects (iy mX0_findCourse).cls (iy mX0_findCourse) (iy mX0_findCourse) ∈ gTbl := gat 3 (by decide +kernel) (by decide +kernel)
def mX0_leads : vMI := (yX0_leads, cX0_leads, 4, (some .boolean), { frames := 1, cells := 0, slots := 0, locals := 22 })
set_option maxRecDepth 100000 in
theorem okX0_leads : MOk mX0_leads 3 := ⟨gat 388 (by decide +kernel) (by decide +kernel), gat 49 (by decide +kernel) (by decide +kernel), by decide +kernel, by decide +kernel, by decide +kernel, by decide +kernel⟩
set_option maxRecDepth 100000 in
theorem imX0_leads : Cond.instanceMethod (iy mX0_leads) ∈ gTbl := gat 387 (by decide +kernel) (by decide +kernel)
set_option maxRecDepth 100000 in
theorem seX0_leads : Cond.selects (iy mX0_leads).cls (iy mX0_leads) (iy mX0_leads) ∈ gTbl := gat 4 (by decide +kernel) (by decide +kernel)
def mX0_isBefore : vMI := (yX0_isBefore, cX0_isBefore, 4, (some .boolean), { frames := 0, cells := 0, slots := 0, locals := 0 })
set_option maxRecDepth 100000 in
theorem okX0_isBefore : MOk mX0_isBefore 3 := ⟨gat 392 (by decide +kernel) (by decide +kernel), gat 49 (by decide +kernel) (by decide +kernel), by decide +kernel, by decide +kernel, by decide +kernel, by decide +kernel⟩
set_option maxRecDepth 100000 in
theorem imX0_isBefore : Cond.instanceMethod (iy mX0_isBefore) ∈ gTbl := gat 391 (by decide +kernel) (by decide +kernel)
set_option maxRecDepth 100000 in
theorem seX0_isBefore : Cond.selects (iy mX0_isBefore).cls (iy mX0_isBefore) (iy mX0_isBefore) ∈ gTbl := gat 5 (by decide +kernel) (by decide +kernel)
def mX0_isCovered : vMI := (yX0_isCovered, cX0_isCovered, 3, (some .boolean), { frames := 0, cells := 0, slots := 0, locals := 0 })
set_option maxRecDepth 100000 in
theorem okX0_isCovered : MOk mX0_isCovered 2 := ⟨gat 376 (by decide +kernel) (by decide +kernel), gat 49 (by decide +kernel) (by decide +kernel), by decide +kernel, by decide +kernel, by decide +kernel, by decide +kernel⟩
set_option maxRecDepth 100000 in
theorem imX0_isCovered : Cond.instanceMethod (iy mX0_isCovered) ∈ gTbl := gat 374 (by decide +kernel) (by decide +kernel)
set_option maxRecDepth 100000 in
theorem seX0_isCovered : Cond.selects (iy mX0_isCovered).cls (iy mX0_isCovered) (iy mX0_isCovered) ∈ gTbl := gat 375 (by decide +kernel) (by decide +kernel)
def mX0_isIced : vMI := (yX0_isIced, cX0_isIced, 3, (some .boolean), { frames := 1, cells := 0, slots := 0, locals := 22 })
set_option maxRecDepth 100000 in
theorem okX0_isIced : MOk mX0_isIced 2 := ⟨gat 453 (by decide +kernel) (by decide +kernel), gat 49 (by decide +kernel) (by decide +kernel), by decide +kernel, by decide +kernel, by decide +kernel, by decide +kernel⟩
set_option maxRecDepth 100000 in
theorem imX0_isIced : Cond.instanceMethod (iy mX0_isIced) ∈ gTbl := gat 451 (by decide +kernel) (by decide +kernel)
set_option maxRecDepth 100000 in
theorem seX0_isIced : Cond.selects (iy mX0_isIced).cls (iy mX0_isIced) (iy mX0_isIced) ∈ gTbl := gat 452 (by decide +kernel) (by decide +kernel)
def mX0_isHeap : vMI := (yX0_isHeap, cX0_isHeap, 3, (some .boolean), { frames := 1, cells := 0, slots := 0, locals := 22 })
set_option maxRecDepth 100000 in
theorem okX0_isHeap : MOk mX0_isHeap 2 := ⟨gat 467 (by decide +kernel) (by decide +kernel), gat 49 (by decide +kernel) (by decide +kernel), by decide +kernel, by decide +kernel, by decide +kernel, by decide +kernel⟩
set_option maxRecDepth 100000 in
theorem imX0_isHeap : Cond.instanceMethod (iy mX0_isHeap) ∈ gTbl := gat 465 (by decide +kernel) (by decide +kernel)
set_option maxRecDepth 100000 in
theorem seX0_isHeap : Cond.selects (iy mX0_isHeap).cls (iy mX0_isHeap) (iy mX0_isHeap) ∈ gTbl := gat 466 (by decide +kernel) (by decide +kernel)
def mX0_isFlowing : vMI := (yX0_isFlowing, cX0_isFlowing, 4, (some .boolean), { frames := 1, cells := 0, slots := 0, locals := 22 })
set_option maxRecDepth 100000 in
theorem okX0_isFlowing : MOk mX0_isFlowing 3 := ⟨gat 582 (by decide +kernel) (by decide +kernel), gat 49 (by decide +kernel) (by decide +kernel), by decide +kernel, by decide +kernel, by decide +kernel, by decide +kernel⟩
set_option maxRecDepth 100000 in
theorem imX0_isFlowing : Cond.instanceMethod (iy mX0_isFlowing) ∈ gTbl := gat 580 (by decide +kernel) (by decide +kernel)
set_option maxRecDepth 100000 in
theorem seX0_isFlowing : Cond.selects (iy mX0_isFlowing).cls (iy mX0_isFlowing) (iy mX0_isFlowing) ∈ gTbl := gat 581 (by decide +kernel) (by decide +kernel)
def mX0_distAt : vMI := (yX0_distAt, cX0_distAt, 3, (some .int), { frames := 0, cells := 0, slots := 0, locals := 0 })
set_option maxRecDepth 100000 in
theorem okX0_distAt : MOk mX0_distAt 2 := ⟨gat 380 (by decide +kernel) (by decide +kernel), gat 49 (by decide +kernel) (by decide +kernel), by decide +kernel, by decide +kernel, by decide +kernel, by decide +kernel⟩
set_option maxRecDepth 100000 in
theorem imX0_distAt : Cond.instanceMethod (iy mX0_distAt) ∈ gTbl := gat 378 (by decide +kernel) (by decide +kernel)
set_option maxRecDepth 100000 in
theorem seX0_distAt : Cond.selects (iy mX0_distAt).cls (iy mX0_distAt) (iy mX0_distAt) ∈ gTbl := gat 379 (by decide +kernel) (by decide +kernel)
def mX0_thickAt : vMI := (yX0_thickAt, cX0_thickAt, 3, (some .int), { frames := 1, cells := 0, slots := 0, locals := 22 })
set_option maxRecDepth 100000 in
theorem okX0_thickAt : MOk mX0_thickAt 2 := ⟨gat 459 (by decide +kernel) (by decide +kernel), gat 49 (by decide +kernel) (by decide +kernel), by decide +kernel, by decide +kernel, by decide +kernel, by decide +kernel⟩
set_option maxRecDepth 100000 in
theorem imX0_thickAt : Cond.instanceMethod (iy mX0_thickAt) ∈ gTbl := gat 457 (by decide +kernel) (by decide +kernel)
set_option maxRecDepth 100000 in
theorem seX0_thickAt : Cond.selects (iy mX0_thickAt).cls (iy mX0_thickAt) (iy mX0_thickAt) ∈ gTbl := gat 458 (by decide +kernel) (by decide +kernel)
def mX0_courseAt : vMI := (yX0_courseAt, cX0_courseAt, 3, (some .int), { frames := 0, cells := 0, slots := 0, locals := 0 })
set_option maxRecDepth 100000 in
theorem okX0_courseAt : MOk mX0_courseAt 2 := ⟨gat 463 (by decide +kernel) (by decide +kernel), gat 49 (by decide +kernel) (by decide +kernel), by decide +kernel, by decide +kernel, by decide +kernel, by decide +kernel⟩
set_option maxRecDepth 100000 in
theorem imX0_courseAt : Cond.instanceMethod (iy mX0_courseAt) ∈ gTbl := gat 461 (by decide +kernel) (by decide +kernel)
set_option maxRecDepth 100000 in
theorem seX0_courseAt : Cond.selects (iy mX0_courseAt).cls (iy mX0_courseAt) (iy mX0_courseAt) ∈ gTbl := gat 462 (by decide +kernel) (by decide +kernel)
def mX0_countCovered : vMI := (yX0_countCovered, cX0_countCovered, 4, (some .int), { frames := 1, cells := 0, slots := 0, locals := 22 })
set_option maxRecDepth 100000 in
theorem okX0_countCovered : MOk mX0_countCovered 1 := ⟨gat 440 (by decide +kernel) (by decide +kernel), gat 49 (by decide +kernel) (by decide +kernel), by decide +kernel, by decide +kernel, by decide +kernel, by decide +kernel⟩
set_option maxRecDepth 100000 in
theorem imX0_countCovered : Cond.instanceMethod (iy mX0_countCovered) ∈ gTbl := gat 438 (by decide +kernel) (by decide +kernel)
set_option maxRecDepth 100000 in
theorem seX0_countCovered : Cond.selects (iy mX0_countCovered).cls (iy mX0_countCovered) (iy mX0_countCovered) ∈ gTbl := gat 439 (by decide +kernel) (by decide +kernel)
def mX0_carry : vMI := (yX0_carry, cX0_carry, 8, (some .int), { frames := 0, cells := 0, slots := 0, locals := 0 })
set_option maxRecDepth 100000 in
theorem okX0_carry : MOk mX0_carry 3 := ⟨gat 476 (by decide +kernel) (by decide +kernel), gat 49 (by decide +kernel) (by decide +kernel), by decide +kernel, by decide +kernel, by decide +kernel, by decide +kernel⟩
set_option maxRecDepth 100000 in
theorem imX0_carry : Cond.instanceMethod (iy mX0_carry) ∈ gTbl := gat 474 (by decide +kernel) (by decide +kernel)
set_option maxRecDepth 100000 in
theorem seX0_carry : Cond.selects (iy mX0_carry).cls (iy mX0_carry) (iy mX0_carry) ∈ gTbl := gat 475 (by decide +kernel) (by decide +kernel)
def mX0_carryAlong : vMI := (yX0_carryAlong, cX0_carryAlong, 6, (some .int), { frames := 1, cells := 0, slots := 0, locals := 27 })
set_option maxRecDepth 100000 in
theorem okX0_carryAlong : MOk mX0_carryAlong 3 := ⟨gat 518 (by decide +kernel) (by decide +kernel), gat 49 (by decide +kernel) (by decide +kernel), by decide +kernel, by decide +kernel, by decide +kernel, by decide +kernel⟩
set_option maxRecDepth 100000 in
theorem imX0_carryAlong : Cond.instanceMethod (iy mX0_carryAlong) ∈ gTbl := gat 516 (by decide +kernel) (by decide +kernel)
set_option maxRecDepth 100000 in
theorem seX0_carryAlong : Cond.selects (iy mX0_carryAlong).cls (iy mX0_carryAlong) (iy mX0_carryAlong) ∈ gTbl := gat 517 (by decide +kernel) (by decide +kernel)
def mX1_init : vMI := (yX1_init, cX1_init, 1, none, { frames := 3, cells := 3, slots := 216, locals := 74 })
set_option maxRecDepth 100000 in
theorem okX1_init : MOk mX1_init 0 := ⟨gat 71 (by decide +kernel) (by decide +kernel), gat 46 (by decide +kernel) (by decide +kernel), by decide +kernel, by decide +kernel, by decide +kernel, by decide +kernel⟩
set_option maxRecDepth 100000 in
theorem imX1_init : Cond.instanceMethod (iy mX1_init) ∈ gTbl := gat 70 (by decide +kernel) (by decide +kernel)
def mX1_lay : vMI := (yX1_lay, cX1_lay, 5, none, { frames := 2, cells := 0, slots := 0, locals := 50 })
set_option maxRecDepth 100000 in
theorem okX1_lay : MOk mX1_lay 2 := ⟨gat 76 (by decide +kernel) (by decide +kernel), gat 46 (by decide +kernel) (by decide +kernel), by decide +kernel, by decide +kernel, by decide +kernel, by decide +kernel⟩
set_option maxRecDepth 100000 in
theorem imX1_lay : Cond.instanceMethod (iy mX1_lay) ∈ gTbl := gat 74 (by decide +kernel) (by decide +kernel)
set_option maxRecDepth 100000 in
theorem seX1_lay : Cond.selects (iy mX1_lay).cls (iy mX1_lay) (iy mX1_lay) ∈ gTbl := gat 75 (by decide +kernel) (by decide +kernel)
def mX1_layBeside : vMI := (yX1_layBeside, cX1_layBeside, 9, none, { frames := 1, cells := 0, slots := 0, locals := 22 })
set_option maxRecDepth 100000 in
theorem okX1_layBeside : MOk mX1_layBeside 4 := ⟨gat 83 (by decide +kernel) (by decide +kernel), gat 46 (by decide +kernel) (by decide +kernel), by decide +kernel, by decide +kernel, by decide +kernel, by decide +kernel⟩
set_option maxRecDepth 100000 in
theorem imX1_layBeside : Cond.instanceMethod (iy mX1_layBeside) ∈ gTbl := gat 82 (by decide +kernel) (by decide +kernel)
set_option maxRecDepth 100000 in
theorem seX1_layBeside : Cond.selects (iy mX1_layBeside).cls (iy mX1_layBeside) (iy mX1_layBeside) ∈ gTbl := gat 0 (by decide +kernel) (by decide +kernel)
def mX1_has : vMI := (yX1_has, cX1_has, 2, (some .boolean), { frames := 1, cells := 0, slots := 0, locals := 22 })
set_option maxRecDepth 100000 in
theorem okX1_has : MOk mX1_has 1 := ⟨gat 355 (by decide +kernel) (by decide +kernel), gat 46 (by decide +kernel) (by decide +kernel), by decide +kernel, by decide +kernel, by decide +kernel, by decide +kernel⟩
set_option maxRecDepth 100000 in
theorem imX1_has : Cond.instanceMethod (iy mX1_has) ∈ gTbl := gat 353 (by decide +kernel) (by decide +kernel)
set_option maxRecDepth 100000 in
theorem seX1_has : Cond.selects (iy mX1_has).cls (iy mX1_has) (iy mX1_has) ∈ gTbl := gat 354 (by decide +kernel) (by decide +kernel)
def mX1_isEdge : vMI := (yX1_isEdge, cX1_isEdge, 3, (some .boolean), { frames := 0, cells := 0, slots := 0, locals := 0 })
set_option maxRecDepth 100000 in
theorem okX1_isEdge : MOk mX1_isEdge 1 := ⟨gat 368 (by decide +kernel) (by decide +kernel), gat 46 (by decide +kernel) (by decide +kernel), by decide +kernel, by decide +kernel, by decide +kernel, by decide +kernel⟩
set_option maxRecDepth 100000 in
theorem imX1_isEdge : Cond.instanceMethod (iy mX1_isEdge) ∈ gTbl := gat 366 (by decide +kernel) (by decide +kernel)
set_option maxRecDepth 100000 in
theorem seX1_isEdge : Cond.selects (iy mX1_isEdge).cls (iy mX1_isEdge) (iy mX1_isEdge) ∈ gTbl := gat 367 (by decide +kernel) (by decide +kernel)
def mX2_init : vMI := (yX2_init, cX2_init, 1, none, { frames := 1, cells := 2, slots := 20, locals := 20 })
set_option maxRecDepth 100000 in
theorem okX2_init : MOk mX2_init 0 := ⟨gat 291 (by decide +kernel) (by decide +kernel), gat 54 (by decide +kernel) (by decide +kernel), by decide +kernel, by decide +kernel, by decide +kernel, by decide +kernel⟩
set_option maxRecDepth 100000 in
theorem imX2_init : Cond.instanceMethod (iy mX2_init) ∈ gTbl := gat 290 (by decide +kernel) (by decide +kernel)
def mX2_mask : vMI := (yX2_mask, cX2_mask, 1, (some .int), { frames := 0, cells := 0, slots := 0, locals := 0 })
set_option maxRecDepth 100000 in
theorem okX2_mask : MOk mX2_mask 1 := ⟨gat 699 (by decide +kernel) (by decide +kernel), gat 54 (by decide +kernel) (by decide +kernel), by decide +kernel, by decide +kernel, by decide +kernel, by decide +kernel⟩
set_option maxRecDepth 100000 in
theorem stX2_mask : Cond.static (iy mX2_mask) ∈ gTbl := gat 698 (by decide +kernel) (by decide +kernel)
def mX2_isToldOver : vMI := (yX2_isToldOver, cX2_isToldOver, 3, (some .boolean), { frames := 1, cells := 0, slots := 0, locals := 20 })
set_option maxRecDepth 100000 in
theorem okX2_isToldOver : MOk mX2_isToldOver 2 := ⟨gat 696 (by decide +kernel) (by decide +kernel), gat 54 (by decide +kernel) (by decide +kernel), by decide +kernel, by decide +kernel, by decide +kernel, by decide +kernel⟩
set_option maxRecDepth 100000 in
theorem imX2_isToldOver : Cond.instanceMethod (iy mX2_isToldOver) ∈ gTbl := gat 694 (by decide +kernel) (by decide +kernel)
set_option maxRecDepth 100000 in
theorem seX2_isToldOver : Cond.selects (iy mX2_isToldOver).cls (iy mX2_isToldOver) (iy mX2_isToldOver) ∈ gTbl := gat 695 (by decide +kernel) (by decide +kernel)
def mX2_isRoundAbout : vMI := (yX2_isRoundAbout, cX2_isRoundAbout, 3, (some .boolean), { frames := 1, cells := 0, slots := 0, locals := 20 })
set_option maxRecDepth 100000 in
theorem okX2_isRoundAbout : MOk mX2_isRoundAbout 2 := ⟨gat 709 (by decide +kernel) (by decide +kernel), gat 54 (by decide +kernel) (by decide +kernel), by decide +kernel, by decide +kernel, by decide +kernel, by decide +kernel⟩
set_option maxRecDepth 100000 in
theorem imX2_isRoundAbout : Cond.instanceMethod (iy mX2_isRoundAbout) ∈ gTbl := gat 707 (by decide +kernel) (by decide +kernel)
set_option maxRecDepth 100000 in
theorem seX2_isRoundAbout : Cond.selects (iy mX2_isRoundAbout).cls (iy mX2_isRoundAbout) (iy mX2_isRoundAbout) ∈ gTbl := gat 708 (by decide +kernel) (by decide +kernel)
def mX2_turn : vMI := (yX2_turn, cX2_turn, 5, none, { frames := 2, cells := 0, slots := 0, locals := 42 })
set_option maxRecDepth 100000 in
theorem okX2_turn : MOk mX2_turn 2 := ⟨gat 703 (by decide +kernel) (by decide +kernel), gat 54 (by decide +kernel) (by decide +kernel), by decide +kernel, by decide +kernel, by decide +kernel, by decide +kernel⟩
set_option maxRecDepth 100000 in
theorem imX2_turn : Cond.instanceMethod (iy mX2_turn) ∈ gTbl := gat 701 (by decide +kernel) (by decide +kernel)
set_option maxRecDepth 100000 in
theorem seX2_turn : Cond.selects (iy mX2_turn).cls (iy mX2_turn) (iy mX2_turn) ∈ gTbl := gat 702 (by decide +kernel) (by decide +kernel)
def mX2_fewestDropped : vMI := (yX2_fewestDropped, cX2_fewestDropped, 2, (some .int), { frames := 2, cells := 0, slots := 0, locals := 45 })
set_option maxRecDepth 100000 in
theorem okX2_fewestDropped : MOk mX2_fewestDropped 0 := ⟨gat 726 (by decide +kernel) (by decide +kernel), gat 54 (by decide +kernel) (by decide +kernel), by decide +kernel, by decide +kernel, by decide +kernel, by decide +kernel⟩
set_option maxRecDepth 100000 in
theorem imX2_fewestDropped : Cond.instanceMethod (iy mX2_fewestDropped) ∈ gTbl := gat 724 (by decide +kernel) (by decide +kernel)
set_option maxRecDepth 100000 in
theorem seX2_fewestDropped : Cond.selects (iy mX2_fewestDropped).cls (iy mX2_fewestDropped) (iy mX2_fewestDropped) ∈ gTbl := gat 725 (by decide +kernel) (by decide +kernel)
def mX2_isWithoutRing : vMI := (yX2_isWithoutRing, cX2_isWithoutRing, 6, (some .boolean), { frames := 1, cells := 0, slots := 0, locals := 20 })
set_option maxRecDepth 100000 in
theorem okX2_isWithoutRing : MOk mX2_isWithoutRing 1 := ⟨gat 736 (by decide +kernel) (by decide +kernel), gat 54 (by decide +kernel) (by decide +kernel), by decide +kernel, by decide +kernel, by decide +kernel, by decide +kernel⟩
set_option maxRecDepth 100000 in
theorem imX2_isWithoutRing : Cond.instanceMethod (iy mX2_isWithoutRing) ∈ gTbl := gat 735 (by decide +kernel) (by decide +kernel)
set_option maxRecDepth 100000 in
theorem seX2_isWithoutRing : Cond.selects (iy mX2_isWithoutRing).cls (iy mX2_isWithoutRing) (iy mX2_isWithoutRing) ∈ gTbl := gat 13 (by decide +kernel) (by decide +kernel)
def mX3_init : vMI := (yX3_init, cX3_init, 1, none, { frames := 1, cells := 1, slots := 6, locals := 20 })
set_option maxRecDepth 100000 in
theorem okX3_init : MOk mX3_init 0 := ⟨gat 189 (by decide +kernel) (by decide +kernel), gat 50 (by decide +kernel) (by decide +kernel), by decide +kernel, by decide +kernel, by decide +kernel, by decide +kernel⟩
set_option maxRecDepth 100000 in
theorem imX3_init : Cond.instanceMethod (iy mX3_init) ∈ gTbl := gat 188 (by decide +kernel) (by decide +kernel)
def mX3_has : vMI := (yX3_has, cX3_has, 3, (some .boolean), { frames := 0, cells := 0, slots := 0, locals := 0 })
set_option maxRecDepth 100000 in
theorem okX3_has : MOk mX3_has 1 := ⟨gat 491 (by decide +kernel) (by decide +kernel), gat 50 (by decide +kernel) (by decide +kernel), by decide +kernel, by decide +kernel, by decide +kernel, by decide +kernel⟩
set_option maxRecDepth 100000 in
theorem imX3_has : Cond.instanceMethod (iy mX3_has) ∈ gTbl := gat 489 (by decide +kernel) (by decide +kernel)
set_option maxRecDepth 100000 in
theorem seX3_has : Cond.selects (iy mX3_has).cls (iy mX3_has) (iy mX3_has) ∈ gTbl := gat 490 (by decide +kernel) (by decide +kernel)
def mX3_add : vMI := (yX3_add, cX3_add, 2, none, { frames := 0, cells := 0, slots := 0, locals := 0 })
set_option maxRecDepth 100000 in
theorem okX3_add : MOk mX3_add 1 := ⟨gat 496 (by decide +kernel) (by decide +kernel), gat 50 (by decide +kernel) (by decide +kernel), by decide +kernel, by decide +kernel, by decide +kernel, by decide +kernel⟩
set_option maxRecDepth 100000 in
theorem imX3_add : Cond.instanceMethod (iy mX3_add) ∈ gTbl := gat 494 (by decide +kernel) (by decide +kernel)
set_option maxRecDepth 100000 in
theorem seX3_add : Cond.selects (iy mX3_add).cls (iy mX3_add) (iy mX3_add) ∈ gTbl := gat 495 (by decide +kernel) (by decide +kernel)
def mX3_at : vMI := (yX3_at, cX3_at, 2, (some .int), { frames := 1, cells := 0, slots := 0, locals := 22 })
set_option maxRecDepth 100000 in
theorem okX3_at : MOk mX3_at 1 := ⟨gat 508 (by decide +kernel) (by decide +kernel), gat 50 (by decide +kernel) (by decide +kernel), by decide +kernel, by decide +kernel, by decide +kernel, by decide +kernel⟩
set_option maxRecDepth 100000 in
theorem imX3_at : Cond.instanceMethod (iy mX3_at) ∈ gTbl := gat 506 (by decide +kernel) (by decide +kernel)
set_option maxRecDepth 100000 in
theorem seX3_at : Cond.selects (iy mX3_at).cls (iy mX3_at) (iy mX3_at) ∈ gTbl := gat 507 (by decide +kernel) (by decide +kernel)
def mX3_copy : vMI := (yX3_copy, cX3_copy, 2, none, { frames := 1, cells := 0, slots := 0, locals := 40 })
set_option maxRecDepth 100000 in
theorem okX3_copy : MOk mX3_copy 1 := ⟨gat 620 (by decide +kernel) (by decide +kernel), gat 50 (by decide +kernel) (by decide +kernel), by decide +kernel, by decide +kernel, by decide +kernel, by decide +kernel⟩
set_option maxRecDepth 100000 in
theorem imX3_copy : Cond.instanceMethod (iy mX3_copy) ∈ gTbl := gat 618 (by decide +kernel) (by decide +kernel)
set_option maxRecDepth 100000 in
theorem seX3_copy : Cond.selects (iy mX3_copy).cls (iy mX3_copy) (iy mX3_copy) ∈ gTbl := gat 619 (by decide +kernel) (by decide +kernel)
def mX3_spell : vMI := (yX3_spell, cX3_spell, 6, (some .boolean), { frames := 1, cells := 0, slots := 0, locals := 22 })
set_option maxRecDepth 100000 in
theorem okX3_spell : MOk mX3_spell 3 := ⟨gat 609 (by decide +kernel) (by decide +kernel), gat 50 (by decide +kernel) (by decide +kernel), by decide +kernel, by decide +kernel, by decide +kernel, by decide +kernel⟩
set_option maxRecDepth 100000 in
theorem imX3_spell : Cond.instanceMethod (iy mX3_spell) ∈ gTbl := gat 607 (by decide +kernel) (by decide +kernel)
set_option maxRecDepth 100000 in
theorem seX3_spell : Cond.selects (iy mX3_spell).cls (iy mX3_spell) (iy mX3_spell) ∈ gTbl := gat 608 (by decide +kernel) (by decide +kernel)
def mX4_init : vMI := (yX4_init, cX4_init, 4, none, { frames := 1, cells := 4, slots := 48, locals := 20 })
set_option maxRecDepth 100000 in
theorem okX4_init : MOk mX4_init 3 := ⟨gat 208 (by decide +kernel) (by decide +kernel), gat 51 (by decide +kernel) (by decide +kernel), by decide +kernel, by decide +kernel, by decide +kernel, by decide +kernel⟩
set_option maxRecDepth 100000 in
theorem imX4_init : Cond.instanceMethod (iy mX4_init) ∈ gTbl := gat 207 (by decide +kernel) (by decide +kernel)
def mX4_has : vMI := (yX4_has, cX4_has, 2, (some .boolean), { frames := 1, cells := 0, slots := 0, locals := 22 })
set_option maxRecDepth 100000 in
theorem okX4_has : MOk mX4_has 1 := ⟨gat 552 (by decide +kernel) (by decide +kernel), gat 51 (by decide +kernel) (by decide +kernel), by decide +kernel, by decide +kernel, by decide +kernel, by decide +kernel⟩
set_option maxRecDepth 100000 in
theorem imX4_has : Cond.instanceMethod (iy mX4_has) ∈ gTbl := gat 550 (by decide +kernel) (by decide +kernel)
set_option maxRecDepth 100000 in
theorem seX4_has : Cond.selects (iy mX4_has).cls (iy mX4_has) (iy mX4_has) ∈ gTbl := gat 551 (by decide +kernel) (by decide +kernel)
def mX4_add : vMI := (yX4_add, cX4_add, 5, (some .int), { frames := 0, cells := 0, slots := 0, locals := 0 })
set_option maxRecDepth 100000 in
theorem okX4_add : MOk mX4_add 4 := ⟨gat 543 (by decide +kernel) (by decide +kernel), gat 51 (by decide +kernel) (by decide +kernel), by decide +kernel, by decide +kernel, by decide +kernel, by decide +kernel⟩
set_option maxRecDepth 100000 in
theorem imX4_add : Cond.instanceMethod (iy mX4_add) ∈ gTbl := gat 541 (by decide +kernel) (by decide +kernel)
set_option maxRecDepth 100000 in
theorem seX4_add : Cond.selects (iy mX4_add).cls (iy mX4_add) (iy mX4_add) ∈ gTbl := gat 542 (by decide +kernel) (by decide +kernel)
def mX4_remove : vMI := (yX4_remove, cX4_remove, 4, (some .int), { frames := 0, cells := 0, slots := 0, locals := 0 })
set_option maxRecDepth 100000 in
theorem okX4_remove : MOk mX4_remove 1 := ⟨gat 557 (by decide +kernel) (by decide +kernel), gat 51 (by decide +kernel) (by decide +kernel), by decide +kernel, by decide +kernel, by decide +kernel, by decide +kernel⟩
set_option maxRecDepth 100000 in
theorem imX4_remove : Cond.instanceMethod (iy mX4_remove) ∈ gTbl := gat 555 (by decide +kernel) (by decide +kernel)
set_option maxRecDepth 100000 in
theorem seX4_remove : Cond.selects (iy mX4_remove).cls (iy mX4_remove) (iy mX4_remove) ∈ gTbl := gat 556 (by decide +kernel) (by decide +kernel)
def mX4_costOf : vMI := (yX4_costOf, cX4_costOf, 4, (some .int), { frames := 5, cells := 0, slots := 0, locals := 123 })
set_option maxRecDepth 100000 in
theorem okX4_costOf : MOk mX4_costOf 1 := ⟨gat 597 (by decide +kernel) (by decide +kernel), gat 51 (by decide +kernel) (by decide +kernel), by decide +kernel, by decide +kernel, by decide +kernel, by decide +kernel⟩
set_option maxRecDepth 100000 in
theorem imX4_costOf : Cond.instanceMethod (iy mX4_costOf) ∈ gTbl := gat 595 (by decide +kernel) (by decide +kernel)
set_option maxRecDepth 100000 in
theorem seX4_costOf : Cond.selects (iy mX4_costOf).cls (iy mX4_costOf) (iy mX4_costOf) ∈ gTbl := gat 596 (by decide +kernel) (by decide +kernel)
def mX4_isExplained : vMI := (yX4_isExplained, cX4_isExplained, 3, (some .boolean), { frames := 5, cells := 0, slots := 0, locals := 123 })
set_option maxRecDepth 100000 in
theorem okX4_isExplained : MOk mX4_isExplained 2 := ⟨gat 565 (by decide +kernel) (by decide +kernel), gat 51 (by decide +kernel) (by decide +kernel), by decide +kernel, by decide +kernel, by decide +kernel, by decide +kernel⟩
set_option maxRecDepth 100000 in
theorem imX4_isExplained : Cond.instanceMethod (iy mX4_isExplained) ∈ gTbl := gat 563 (by decide +kernel) (by decide +kernel)
set_option maxRecDepth 100000 in
theorem seX4_isExplained : Cond.selects (iy mX4_isExplained).cls (iy mX4_isExplained) (iy mX4_isExplained) ∈ gTbl := gat 564 (by decide +kernel) (by decide +kernel)
def mX4_tellApart : vMI := (yX4_tellApart, cX4_tellApart, 6, (some .boolean), { frames := 5, cells := 0, slots := 0, locals := 123 })
set_option maxRecDepth 100000 in
theorem okX4_tellApart : MOk mX4_tellApart 4 := ⟨gat 644 (by decide +kernel) (by decide +kernel), gat 51 (by decide +kernel) (by decide +kernel), by decide +kernel, by decide +kernel, by decide +kernel, by decide +kernel⟩
set_option maxRecDepth 100000 in
theorem imX4_tellApart : Cond.instanceMethod (iy mX4_tellApart) ∈ gTbl := gat 642 (by decide +kernel) (by decide +kernel)
set_option maxRecDepth 100000 in
theorem seX4_tellApart : Cond.selects (iy mX4_tellApart).cls (iy mX4_tellApart) (iy mX4_tellApart) ∈ gTbl := gat 643 (by decide +kernel) (by decide +kernel)
def mX4_canComeFrom : vMI := (yX4_canComeFrom, cX4_canComeFrom, 4, (some .boolean), { frames := 2, cells := 0, slots := 0, locals := 52 })
set_option maxRecDepth 100000 in
theorem okX4_canComeFrom : MOk mX4_canComeFrom 3 := ⟨gat 527 (by decide +kernel) (by decide +kernel), gat 51 (by decide +kernel) (by decide +kernel), by decide +kernel, by decide +kernel, by decide +kernel, by decide +kernel⟩
set_option maxRecDepth 100000 in
theorem imX4_canComeFrom : Cond.instanceMethod (iy mX4_canComeFrom) ∈ gTbl := gat 525 (by decide +kernel) (by decide +kernel)
set_option maxRecDepth 100000 in
theorem seX4_canComeFrom : Cond.selects (iy mX4_canComeFrom).cls (iy mX4_canComeFrom) (iy mX4_canComeFrom) ∈ gTbl := gat 526 (by decide +kernel) (by decide +kernel)
def mX4_holds : vMI := (yX4_holds, cX4_holds, 6, (some .boolean), { frames := 4, cells := 0, slots := 0, locals := 98 })
set_option maxRecDepth 100000 in
theorem okX4_holds : MOk mX4_holds 4 := ⟨gat 569 (by decide +kernel) (by decide +kernel), gat 51 (by decide +kernel) (by decide +kernel), by decide +kernel, by decide +kernel, by decide +kernel, by decide +kernel⟩
set_option maxRecDepth 100000 in
theorem imX4_holds : Cond.instanceMethod (iy mX4_holds) ∈ gTbl := gat 568 (by decide +kernel) (by decide +kernel)
set_option maxRecDepth 100000 in
theorem seX4_holds : Cond.selects (iy mX4_holds).cls (iy mX4_holds) (iy mX4_holds) ∈ gTbl := gat 7 (by decide +kernel) (by decide +kernel)
def mX4_isDoneBy : vMI := (yX4_isDoneBy, cX4_isDoneBy, 5, (some .boolean), { frames := 2, cells := 0, slots := 0, locals := 45 })
set_option maxRecDepth 100000 in
theorem okX4_isDoneBy : MOk mX4_isDoneBy 4 := ⟨gat 586 (by decide +kernel) (by decide +kernel), gat 51 (by decide +kernel) (by decide +kernel), by decide +kernel, by decide +kernel, by decide +kernel, by decide +kernel⟩
set_option maxRecDepth 100000 in
theorem imX4_isDoneBy : Cond.instanceMethod (iy mX4_isDoneBy) ∈ gTbl := gat 585 (by decide +kernel) (by decide +kernel)
set_option maxRecDepth 100000 in
theorem seX4_isDoneBy : Cond.selects (iy mX4_isDoneBy).cls (iy mX4_isDoneBy) (iy mX4_isDoneBy) ∈ gTbl := gat 10 (by decide +kernel) (by decide +kernel)
def mX4_isCrossed : vMI := (yX4_isCrossed, cX4_isCrossed, 7, (some .boolean), { frames := 2, cells := 0, slots := 0, locals := 45 })
set_option maxRecDepth 100000 in
theorem okX4_isCrossed : MOk mX4_isCrossed 4 := ⟨gat 578 (by decide +kernel) (by decide +kernel), gat 51 (by decide +kernel) (by decide +kernel), by decide +kernel, by decide +kernel, by decide +kernel, by decide +kernel⟩
set_option maxRecDepth 100000 in
theorem imX4_isCrossed : Cond.instanceMethod (iy mX4_isCrossed) ∈ gTbl := gat 577 (by decide +kernel) (by decide +kernel)
set_option maxRecDepth 100000 in
theorem seX4_isCrossed : Cond.selects (iy mX4_isCrossed).cls (iy mX4_isCrossed) (iy mX4_isCrossed) ∈ gTbl := gat 9 (by decide +kernel) (by decide +kernel)
def mX4_comesFromSomewhere : vMI := (yX4_comesFromSomewhere, cX4_comesFromSomewhere, 4, (some .boolean), { frames := 3, cells := 0, slots := 0, locals := 75 })
set_option maxRecDepth 100000 in
theorem okX4_comesFromSomewhere : MOk mX4_comesFromSomewhere 2 := ⟨gat 573 (by decide +kernel) (by decide +kernel), gat 51 (by decide +kernel) (by decide +kernel), by decide +kernel, by decide +kernel, by decide +kernel, by decide +kernel⟩
set_option maxRecDepth 100000 in
theorem imX4_comesFromSomewhere : Cond.instanceMethod (iy mX4_comesFromSomewhere) ∈ gTbl := gat 572 (by decide +kernel) (by decide +kernel)
set_option maxRecDepth 100000 in
theorem seX4_comesFromSomewhere : Cond.selects (iy mX4_comesFromSomewhere).cls (iy mX4_comesFromSomewhere) (iy mX4_comesFromSomewhere) ∈ gTbl := gat 8 (by decide +kernel) (by decide +kernel)
def mX5_init : vMI := (yX5_init, cX5_init, 1, none, { frames := 1, cells := 3, slots := 36, locals := 20 })
set_option maxRecDepth 100000 in
theorem okX5_init : MOk mX5_init 0 := ⟨gat 120 (by decide +kernel) (by decide +kernel), gat 48 (by decide +kernel) (by decide +kernel), by decide +kernel, by decide +kernel, by decide +kernel, by decide +kernel⟩
set_option maxRecDepth 100000 in
theorem imX5_init : Cond.instanceMethod (iy mX5_init) ∈ gTbl := gat 119 (by decide +kernel) (by decide +kernel)
def mX5_has : vMI := (yX5_has, cX5_has, 2, (some .boolean), { frames := 1, cells := 0, slots := 0, locals := 22 })
set_option maxRecDepth 100000 in
theorem okX5_has : MOk mX5_has 1 := ⟨gat 409 (by decide +kernel) (by decide +kernel), gat 48 (by decide +kernel) (by decide +kernel), by decide +kernel, by decide +kernel, by decide +kernel, by decide +kernel⟩
set_option maxRecDepth 100000 in
theorem imX5_has : Cond.instanceMethod (iy mX5_has) ∈ gTbl := gat 407 (by decide +kernel) (by decide +kernel)
set_option maxRecDepth 100000 in
theorem seX5_has : Cond.selects (iy mX5_has).cls (iy mX5_has) (iy mX5_has) ∈ gTbl := gat 408 (by decide +kernel) (by decide +kernel)
def mX5_add : vMI := (yX5_add, cX5_add, 4, (some .int), { frames := 0, cells := 0, slots := 0, locals := 0 })
set_option maxRecDepth 100000 in
theorem okX5_add : MOk mX5_add 3 := ⟨gat 400 (by decide +kernel) (by decide +kernel), gat 48 (by decide +kernel) (by decide +kernel), by decide +kernel, by decide +kernel, by decide +kernel, by decide +kernel⟩
set_option maxRecDepth 100000 in
theorem imX5_add : Cond.instanceMethod (iy mX5_add) ∈ gTbl := gat 398 (by decide +kernel) (by decide +kernel)
set_option maxRecDepth 100000 in
theorem seX5_add : Cond.selects (iy mX5_add).cls (iy mX5_add) (iy mX5_add) ∈ gTbl := gat 399 (by decide +kernel) (by decide +kernel)
def mX6_init : vMI := (yX6_init, cX6_init, 3, none, { frames := 2, cells := 4, slots := 16, locals := 40 })
set_option maxRecDepth 100000 in
theorem okX6_init : MOk mX6_init 2 := ⟨gat 240 (by decide +kernel) (by decide +kernel), gat 52 (by decide +kernel) (by decide +kernel), by decide +kernel, by decide +kernel, by decide +kernel, by decide +kernel⟩
set_option maxRecDepth 100000 in
theorem imX6_init : Cond.instanceMethod (iy mX6_init) ∈ gTbl := gat 239 (by decide +kernel) (by decide +kernel)
def mX6_renew : vMI := (yX6_renew, cX6_renew, 4, none, { frames := 6, cells := 0, slots := 0, locals := 146 })
set_option maxRecDepth 100000 in
theorem okX6_renew : MOk mX6_renew 0 := ⟨gat 605 (by decide +kernel) (by decide +kernel), gat 52 (by decide +kernel) (by decide +kernel), by decide +kernel, by decide +kernel, by decide +kernel, by decide +kernel⟩
set_option maxRecDepth 100000 in
theorem imX6_renew : Cond.instanceMethod (iy mX6_renew) ∈ gTbl := gat 603 (by decide +kernel) (by decide +kernel)
set_option maxRecDepth 100000 in
theorem seX6_renew : Cond.selects (iy mX6_renew).cls (iy mX6_renew) (iy mX6_renew) ∈ gTbl := gat 604 (by decide +kernel) (by decide +kernel)
def mX6_weigh : vMI := (yX6_weigh, cX6_weigh, 2, none, { frames := 2, cells := 0, slots := 0, locals := 61 })
set_option maxRecDepth 100000 in
theorem okX6_weigh : MOk mX6_weigh 1 := ⟨gat 615 (by decide +kernel) (by decide +kernel), gat 52 (by decide +kernel) (by decide +kernel), by decide +kernel, by decide +kernel, by decide +kernel, by decide +kernel⟩
set_option maxRecDepth 100000 in
theorem imX6_weigh : Cond.instanceMethod (iy mX6_weigh) ∈ gTbl := gat 614 (by decide +kernel) (by decide +kernel)
set_option maxRecDepth 100000 in
theorem seX6_weigh : Cond.selects (iy mX6_weigh).cls (iy mX6_weigh) (iy mX6_weigh) ∈ gTbl := gat 11 (by decide +kernel) (by decide +kernel)
def mX7_init : vMI := (yX7_init, cX7_init, 3, none, { frames := 1, cells := 1, slots := 36, locals := 20 })
set_option maxRecDepth 100000 in
theorem okX7_init : MOk mX7_init 2 := ⟨gat 274 (by decide +kernel) (by decide +kernel), gat 53 (by decide +kernel) (by decide +kernel), by decide +kernel, by decide +kernel, by decide +kernel, by decide +kernel⟩
set_option maxRecDepth 100000 in
theorem imX7_init : Cond.instanceMethod (iy mX7_init) ∈ gTbl := gat 273 (by decide +kernel) (by decide +kernel)
def mX7_isClosed : vMI := (yX7_isClosed, cX7_isClosed, 2, (some .boolean), { frames := 0, cells := 0, slots := 0, locals := 0 })
set_option maxRecDepth 100000 in
theorem okX7_isClosed : MOk mX7_isClosed 1 := ⟨gat 672 (by decide +kernel) (by decide +kernel), gat 53 (by decide +kernel) (by decide +kernel), by decide +kernel, by decide +kernel, by decide +kernel, by decide +kernel⟩
set_option maxRecDepth 100000 in
theorem imX7_isClosed : Cond.instanceMethod (iy mX7_isClosed) ∈ gTbl := gat 670 (by decide +kernel) (by decide +kernel)
set_option maxRecDepth 100000 in
theorem seX7_isClosed : Cond.selects (iy mX7_isClosed).cls (iy mX7_isClosed) (iy mX7_isClosed) ∈ gTbl := gat 671 (by decide +kernel) (by decide +kernel)
def mX7_stand : vMI := (yX7_stand, cX7_stand, 5, none, { frames := 2, cells := 0, slots := 0, locals := 45 })
set_option maxRecDepth 100000 in
theorem okX7_stand : MOk mX7_stand 1 := ⟨gat 656 (by decide +kernel) (by decide +kernel), gat 53 (by decide +kernel) (by decide +kernel), by decide +kernel, by decide +kernel, by decide +kernel, by decide +kernel⟩
set_option maxRecDepth 100000 in
theorem imX7_stand : Cond.instanceMethod (iy mX7_stand) ∈ gTbl := gat 654 (by decide +kernel) (by decide +kernel)
set_option maxRecDepth 100000 in
theorem seX7_stand : Cond.selects (iy mX7_stand).cls (iy mX7_stand) (iy mX7_stand) ∈ gTbl := gat 655 (by decide +kernel) (by decide +kernel)
def mX7_runOut : vMI := (yX7_runOut, cX7_runOut, 5, (some .boolean), { frames := 1, cells := 0, slots := 0, locals := 21 })
set_option maxRecDepth 100000 in
theorem okX7_runOut : MOk mX7_runOut 1 := ⟨gat 662 (by decide +kernel) (by decide +kernel), gat 53 (by decide +kernel) (by decide +kernel), by decide +kernel, by decide +kernel, by decide +kernel, by decide +kernel⟩
set_option maxRecDepth 100000 in
theorem imX7_runOut : Cond.instanceMethod (iy mX7_runOut) ∈ gTbl := gat 661 (by decide +kernel) (by decide +kernel)
set_option maxRecDepth 100000 in
theorem seX7_runOut : Cond.selects (iy mX7_runOut).cls (iy mX7_runOut) (iy mX7_runOut) ∈ gTbl := gat 12 (by decide +kernel) (by decide +kernel)
def mX7_sumDeep : vMI := (yX7_sumDeep, cX7_sumDeep, 3, (some .int), { frames := 1, cells := 0, slots := 0, locals := 21 })
set_option maxRecDepth 100000 in
theorem okX7_sumDeep : MOk mX7_sumDeep 0 := ⟨gat 680 (by decide +kernel) (by decide +kernel), gat 53 (by decide +kernel) (by decide +kernel), by decide +kernel, by decide +kernel, by decide +kernel, by decide +kernel⟩
set_option maxRecDepth 100000 in
theorem imX7_sumDeep : Cond.instanceMethod (iy mX7_sumDeep) ∈ gTbl := gat 678 (by decide +kernel) (by decide +kernel)
set_option maxRecDepth 100000 in
theorem seX7_sumDeep : Cond.selects (iy mX7_sumDeep).cls (iy mX7_sumDeep) (iy mX7_sumDeep) ∈ gTbl := gat 679 (by decide +kernel) (by decide +kernel)
def mX8_init : vMI := (yX8_init, cX8_init, 1, none, { frames := 4, cells := 38, slots := 936, locals := 94 })
set_option maxRecDepth 100000 in
theorem okX8_init : MOk mX8_init 0 := ⟨gat 63 (by decide +kernel) (by decide +kernel), gat 45 (by decide +kernel) (by decide +kernel), by decide +kernel, by decide +kernel, by decide +kernel, by decide +kernel⟩
set_option maxRecDepth 100000 in
theorem imX8_init : Cond.instanceMethod (iy mX8_init) ∈ gTbl := gat 62 (by decide +kernel) (by decide +kernel)
def mX8_land : vMI := (yX8_land, cX8_land, 3, (some .int), { frames := 3, cells := 0, slots := 0, locals := 74 })
set_option maxRecDepth 100000 in
theorem okX8_land : MOk mX8_land 2 := ⟨gat 344 (by decide +kernel) (by decide +kernel), gat 45 (by decide +kernel) (by decide +kernel), by decide +kernel, by decide +kernel, by decide +kernel, by decide +kernel⟩
set_option maxRecDepth 100000 in
theorem imX8_land : Cond.instanceMethod (iy mX8_land) ∈ gTbl := gat 342 (by decide +kernel) (by decide +kernel)
set_option maxRecDepth 100000 in
theorem seX8_land : Cond.selects (iy mX8_land).cls (iy mX8_land) (iy mX8_land) ∈ gTbl := gat 343 (by decide +kernel) (by decide +kernel)
def mX8_cell : vMI := (yX8_cell, cX8_cell, 6, (some .int), { frames := 5, cells := 0, slots := 0, locals := 116 })
set_option maxRecDepth 100000 in
theorem okX8_cell : MOk mX8_cell 3 := ⟨gat 351 (by decide +kernel) (by decide +kernel), gat 45 (by decide +kernel) (by decide +kernel), by decide +kernel, by decide +kernel, by decide +kernel, by decide +kernel⟩
set_option maxRecDepth 100000 in
theorem imX8_cell : Cond.instanceMethod (iy mX8_cell) ∈ gTbl := gat 349 (by decide +kernel) (by decide +kernel)
set_option maxRecDepth 100000 in
theorem seX8_cell : Cond.selects (iy mX8_cell).cls (iy mX8_cell) (iy mX8_cell) ∈ gTbl := gat 350 (by decide +kernel) (by decide +kernel)
def mX8_stone : vMI := (yX8_stone, cX8_stone, 4, (some .int), { frames := 2, cells := 0, slots := 0, locals := 43 })
set_option maxRecDepth 100000 in
theorem okX8_stone : MOk mX8_stone 3 := ⟨gat 396 (by decide +kernel) (by decide +kernel), gat 45 (by decide +kernel) (by decide +kernel), by decide +kernel, by decide +kernel, by decide +kernel, by decide +kernel⟩
set_option maxRecDepth 100000 in
theorem imX8_stone : Cond.instanceMethod (iy mX8_stone) ∈ gTbl := gat 394 (by decide +kernel) (by decide +kernel)
set_option maxRecDepth 100000 in
theorem seX8_stone : Cond.selects (iy mX8_stone).cls (iy mX8_stone) (iy mX8_stone) ∈ gTbl := gat 395 (by decide +kernel) (by decide +kernel)
def mX8_dug : vMI := (yX8_dug, cX8_dug, 4, (some .int), { frames := 2, cells := 0, slots := 0, locals := 43 })
set_option maxRecDepth 100000 in
theorem okX8_dug : MOk mX8_dug 2 := ⟨gat 405 (by decide +kernel) (by decide +kernel), gat 45 (by decide +kernel) (by decide +kernel), by decide +kernel, by decide +kernel, by decide +kernel, by decide +kernel⟩
set_option maxRecDepth 100000 in
theorem imX8_dug : Cond.instanceMethod (iy mX8_dug) ∈ gTbl := gat 403 (by decide +kernel) (by decide +kernel)
set_option maxRecDepth 100000 in
theorem seX8_dug : Cond.selects (iy mX8_dug).cls (iy mX8_dug) (iy mX8_dug) ∈ gTbl := gat 404 (by decide +kernel) (by decide +kernel)
def mX8_ice : vMI := (yX8_ice, cX8_ice, 5, (some .int), { frames := 5, cells := 0, slots := 0, locals := 119 })
set_option maxRecDepth 100000 in
theorem okX8_ice : MOk mX8_ice 4 := ⟨gat 414 (by decide +kernel) (by decide +kernel), gat 45 (by decide +kernel) (by decide +kernel), by decide +kernel, by decide +kernel, by decide +kernel, by decide +kernel⟩
set_option maxRecDepth 100000 in
theorem imX8_ice : Cond.instanceMethod (iy mX8_ice) ∈ gTbl := gat 412 (by decide +kernel) (by decide +kernel)
set_option maxRecDepth 100000 in
theorem seX8_ice : Cond.selects (iy mX8_ice).cls (iy mX8_ice) (iy mX8_ice) ∈ gTbl := gat 413 (by decide +kernel) (by decide +kernel)
def mX8_flood : vMI := (yX8_flood, cX8_flood, 2, (some .int), { frames := 5, cells := 0, slots := 0, locals := 116 })
set_option maxRecDepth 100000 in
theorem okX8_flood : MOk mX8_flood 1 := ⟨gat 423 (by decide +kernel) (by decide +kernel), gat 45 (by decide +kernel) (by decide +kernel), by decide +kernel, by decide +kernel, by decide +kernel, by decide +kernel⟩
set_option maxRecDepth 100000 in
theorem imX8_flood : Cond.instanceMethod (iy mX8_flood) ∈ gTbl := gat 421 (by decide +kernel) (by decide +kernel)
set_option maxRecDepth 100000 in
theorem seX8_flood : Cond.selects (iy mX8_flood).cls (iy mX8_flood) (iy mX8_flood) ∈ gTbl := gat 422 (by decide +kernel) (by decide +kernel)
def mX8_covers : vMI := (yX8_covers, cX8_covers, 2, (some .int), { frames := 2, cells := 0, slots := 0, locals := 45 })
set_option maxRecDepth 100000 in
theorem okX8_covers : MOk mX8_covers 1 := ⟨gat 431 (by decide +kernel) (by decide +kernel), gat 45 (by decide +kernel) (by decide +kernel), by decide +kernel, by decide +kernel, by decide +kernel, by decide +kernel⟩
set_option maxRecDepth 100000 in
theorem imX8_covers : Cond.instanceMethod (iy mX8_covers) ∈ gTbl := gat 429 (by decide +kernel) (by decide +kernel)
set_option maxRecDepth 100000 in
theorem seX8_covers : Cond.selects (iy mX8_covers).cls (iy mX8_covers) (iy mX8_covers) ∈ gTbl := gat 430 (by decide +kernel) (by decide +kernel)
def mX8_by : vMI := (yX8_by, cX8_by, 4, (some .int), { frames := 2, cells := 0, slots := 0, locals := 44 })
set_option maxRecDepth 100000 in
theorem okX8_by : MOk mX8_by 3 := ⟨gat 447 (by decide +kernel) (by decide +kernel), gat 45 (by decide +kernel) (by decide +kernel), by decide +kernel, by decide +kernel, by decide +kernel, by decide +kernel⟩
set_option maxRecDepth 100000 in
theorem imX8_by : Cond.instanceMethod (iy mX8_by) ∈ gTbl := gat 445 (by decide +kernel) (by decide +kernel)
set_option maxRecDepth 100000 in
theorem seX8_by : Cond.selects (iy mX8_by).cls (iy mX8_by) (iy mX8_by) ∈ gTbl := gat 446 (by decide +kernel) (by decide +kernel)
def mX8_brings : vMI := (yX8_brings, cX8_brings, 4, (some .int), { frames := 2, cells := 0, slots := 0, locals := 43 })
set_option maxRecDepth 100000 in
theorem okX8_brings : MOk mX8_brings 3 := ⟨gat 472 (by decide +kernel) (by decide +kernel), gat 45 (by decide +kernel) (by decide +kernel), by decide +kernel, by decide +kernel, by decide +kernel, by decide +kernel⟩
set_option maxRecDepth 100000 in
theorem imX8_brings : Cond.instanceMethod (iy mX8_brings) ∈ gTbl := gat 470 (by decide +kernel) (by decide +kernel)
set_option maxRecDepth 100000 in
theorem seX8_brings : Cond.selects (iy mX8_brings).cls (iy mX8_brings) (iy mX8_brings) ∈ gTbl := gat 471 (by decide +kernel) (by decide +kernel)
def mX8_then : vMI := (yX8_then, cX8_then, 4, (some .int), { frames := 2, cells := 0, slots := 0, locals := 43 })
set_option maxRecDepth 100000 in
theorem okX8_then : MOk mX8_then 2 := ⟨gat 480 (by decide +kernel) (by decide +kernel), gat 45 (by decide +kernel) (by decide +kernel), by decide +kernel, by decide +kernel, by decide +kernel, by decide +kernel⟩
set_option maxRecDepth 100000 in
theorem imX8_then : Cond.instanceMethod (iy mX8_then) ∈ gTbl := gat 478 (by decide +kernel) (by decide +kernel)
set_option maxRecDepth 100000 in
theorem seX8_then : Cond.selects (iy mX8_then).cls (iy mX8_then) (iy mX8_then) ∈ gTbl := gat 479 (by decide +kernel) (by decide +kernel)
def mX8_clear : vMI := (yX8_clear, cX8_clear, 4, (some .int), { frames := 2, cells := 0, slots := 0, locals := 42 })
set_option maxRecDepth 100000 in
theorem okX8_clear : MOk mX8_clear 1 := ⟨gat 500 (by decide +kernel) (by decide +kernel), gat 45 (by decide +kernel) (by decide +kernel), by decide +kernel, by decide +kernel, by decide +kernel, by decide +kernel⟩
set_option maxRecDepth 100000 in
theorem imX8_clear : Cond.instanceMethod (iy mX8_clear) ∈ gTbl := gat 498 (by decide +kernel) (by decide +kernel)
set_option maxRecDepth 100000 in
theorem seX8_clear : Cond.selects (iy mX8_clear).cls (iy mX8_clear) (iy mX8_clear) ∈ gTbl := gat 499 (by decide +kernel) (by decide +kernel)
def mX8_told : vMI := (yX8_told, cX8_told, 3, (some .int), { frames := 2, cells := 0, slots := 0, locals := 43 })
set_option maxRecDepth 100000 in
theorem okX8_told : MOk mX8_told 2 := ⟨gat 504 (by decide +kernel) (by decide +kernel), gat 45 (by decide +kernel) (by decide +kernel), by decide +kernel, by decide +kernel, by decide +kernel, by decide +kernel⟩
set_option maxRecDepth 100000 in
theorem imX8_told : Cond.instanceMethod (iy mX8_told) ∈ gTbl := gat 502 (by decide +kernel) (by decide +kernel)
set_option maxRecDepth 100000 in
theorem seX8_told : Cond.selects (iy mX8_told).cls (iy mX8_told) (iy mX8_told) ∈ gTbl := gat 503 (by decide +kernel) (by decide +kernel)
def mX8_ends : vMI := (yX8_ends, cX8_ends, 4, (some .int), { frames := 2, cells := 0, slots := 0, locals := 52 })
set_option maxRecDepth 100000 in
theorem okX8_ends : MOk mX8_ends 3 := ⟨gat 514 (by decide +kernel) (by decide +kernel), gat 45 (by decide +kernel) (by decide +kernel), by decide +kernel, by decide +kernel, by decide +kernel, by decide +kernel⟩
set_option maxRecDepth 100000 in
theorem imX8_ends : Cond.instanceMethod (iy mX8_ends) ∈ gTbl := gat 512 (by decide +kernel) (by decide +kernel)
set_option maxRecDepth 100000 in
theorem seX8_ends : Cond.selects (iy mX8_ends).cls (iy mX8_ends) (iy mX8_ends) ∈ gTbl := gat 513 (by decide +kernel) (by decide +kernel)
def mX8_whence : vMI := (yX8_whence, cX8_whence, 6, (some .int), { frames := 3, cells := 0, slots := 0, locals := 75 })
set_option maxRecDepth 100000 in
theorem okX8_whence : MOk mX8_whence 2 := ⟨gat 523 (by decide +kernel) (by decide +kernel), gat 45 (by decide +kernel) (by decide +kernel), by decide +kernel, by decide +kernel, by decide +kernel, by decide +kernel⟩
set_option maxRecDepth 100000 in
theorem imX8_whence : Cond.instanceMethod (iy mX8_whence) ∈ gTbl := gat 521 (by decide +kernel) (by decide +kernel)
set_option maxRecDepth 100000 in
theorem seX8_whence : Cond.selects (iy mX8_whence).cls (iy mX8_whence) (iy mX8_whence) ∈ gTbl := gat 522 (by decide +kernel) (by decide +kernel)
def mX8_from : vMI := (yX8_from, cX8_from, 7, (some .int), { frames := 3, cells := 0, slots := 0, locals := 75 })
set_option maxRecDepth 100000 in
theorem okX8_from : MOk mX8_from 3 := ⟨gat 532 (by decide +kernel) (by decide +kernel), gat 45 (by decide +kernel) (by decide +kernel), by decide +kernel, by decide +kernel, by decide +kernel, by decide +kernel⟩
set_option maxRecDepth 100000 in
theorem imX8_from : Cond.instanceMethod (iy mX8_from) ∈ gTbl := gat 530 (by decide +kernel) (by decide +kernel)
set_option maxRecDepth 100000 in
theorem seX8_from : Cond.selects (iy mX8_from).cls (iy mX8_from) (iy mX8_from) ∈ gTbl := gat 531 (by decide +kernel) (by decide +kernel)
def mX8_sign : vMI := (yX8_sign, cX8_sign, 5, (some .int), { frames := 2, cells := 0, slots := 0, locals := 43 })
set_option maxRecDepth 100000 in
theorem okX8_sign : MOk mX8_sign 4 := ⟨gat 536 (by decide +kernel) (by decide +kernel), gat 45 (by decide +kernel) (by decide +kernel), by decide +kernel, by decide +kernel, by decide +kernel, by decide +kernel⟩
set_option maxRecDepth 100000 in
theorem imX8_sign : Cond.instanceMethod (iy mX8_sign) ∈ gTbl := gat 534 (by decide +kernel) (by decide +kernel)
set_option maxRecDepth 100000 in
theorem seX8_sign : Cond.selects (iy mX8_sign).cls (iy mX8_sign) (iy mX8_sign) ∈ gTbl := gat 535 (by decide +kernel) (by decide +kernel)
def mX8_forget : vMI := (yX8_forget, cX8_forget, 2, (some .int), { frames := 2, cells := 0, slots := 0, locals := 43 })
set_option maxRecDepth 100000 in
theorem okX8_forget : MOk mX8_forget 1 := ⟨gat 548 (by decide +kernel) (by decide +kernel), gat 45 (by decide +kernel) (by decide +kernel), by decide +kernel, by decide +kernel, by decide +kernel, by decide +kernel⟩
set_option maxRecDepth 100000 in
theorem imX8_forget : Cond.instanceMethod (iy mX8_forget) ∈ gTbl := gat 546 (by decide +kernel) (by decide +kernel)
set_option maxRecDepth 100000 in
theorem seX8_forget : Cond.selects (iy mX8_forget).cls (iy mX8_forget) (iy mX8_forget) ∈ gTbl := gat 547 (by decide +kernel) (by decide +kernel)
def mX8_explains : vMI := (yX8_explains, cX8_explains, 3, (some .int), { frames := 6, cells := 0, slots := 0, locals := 145 })
set_option maxRecDepth 100000 in
theorem okX8_explains : MOk mX8_explains 2 := ⟨gat 561 (by decide +kernel) (by decide +kernel), gat 45 (by decide +kernel) (by decide +kernel), by decide +kernel, by decide +kernel, by decide +kernel, by decide +kernel⟩
set_option maxRecDepth 100000 in
theorem imX8_explains : Cond.instanceMethod (iy mX8_explains) ∈ gTbl := gat 559 (by decide +kernel) (by decide +kernel)
set_option maxRecDepth 100000 in
theorem seX8_explains : Cond.selects (iy mX8_explains).cls (iy mX8_explains) (iy mX8_explains) ∈ gTbl := gat 560 (by decide +kernel) (by decide +kernel)
def mX8_costs : vMI := (yX8_costs, cX8_costs, 2, (some .int), { frames := 6, cells := 0, slots := 0, locals := 146 })
set_option maxRecDepth 100000 in
theorem okX8_costs : MOk mX8_costs 1 := ⟨gat 593 (by decide +kernel) (by decide +kernel), gat 45 (by decide +kernel) (by decide +kernel), by decide +kernel, by decide +kernel, by decide +kernel, by decide +kernel⟩
set_option maxRecDepth 100000 in
theorem imX8_costs : Cond.instanceMethod (iy mX8_costs) ∈ gTbl := gat 591 (by decide +kernel) (by decide +kernel)
set_option maxRecDepth 100000 in
theorem seX8_costs : Cond.selects (iy mX8_costs).cls (iy mX8_costs) (iy mX8_costs) ∈ gTbl := gat 592 (by decide +kernel) (by decide +kernel)
def mX8_fits : vMI := (yX8_fits, cX8_fits, 1, (some .int), { frames := 7, cells := 0, slots := 0, locals := 169 })
set_option maxRecDepth 100000 in
theorem okX8_fits : MOk mX8_fits 0 := ⟨gat 601 (by decide +kernel) (by decide +kernel), gat 45 (by decide +kernel) (by decide +kernel), by decide +kernel, by decide +kernel, by decide +kernel, by decide +kernel⟩
set_option maxRecDepth 100000 in
theorem imX8_fits : Cond.instanceMethod (iy mX8_fits) ∈ gTbl := gat 599 (by decide +kernel) (by decide +kernel)
set_option maxRecDepth 100000 in
theorem seX8_fits : Cond.selects (iy mX8_fits).cls (iy mX8_fits) (iy mX8_fits) ∈ gTbl := gat 600 (by decide +kernel) (by decide +kernel)
def mX8_best : vMI := (yX8_best, cX8_best, 1, (some .int), { frames := 7, cells := 0, slots := 0, locals := 169 })
set_option maxRecDepth 100000 in
theorem okX8_best : MOk mX8_best 0 := ⟨gat 627 (by decide +kernel) (by decide +kernel), gat 45 (by decide +kernel) (by decide +kernel), by decide +kernel, by decide +kernel, by decide +kernel, by decide +kernel⟩
set_option maxRecDepth 100000 in
theorem imX8_best : Cond.instanceMethod (iy mX8_best) ∈ gTbl := gat 625 (by decide +kernel) (by decide +kernel)
set_option maxRecDepth 100000 in
theorem seX8_best : Cond.selects (iy mX8_best).cls (iy mX8_best) (iy mX8_best) ∈ gTbl := gat 626 (by decide +kernel) (by decide +kernel)
def mX8_bestGo : vMI := (yX8_bestGo, cX8_bestGo, 2, (some .int), { frames := 7, cells := 0, slots := 0, locals := 169 })
set_option maxRecDepth 100000 in
theorem okX8_bestGo : MOk mX8_bestGo 1 := ⟨gat 631 (by decide +kernel) (by decide +kernel), gat 45 (by decide +kernel) (by decide +kernel), by decide +kernel, by decide +kernel, by decide +kernel, by decide +kernel⟩
set_option maxRecDepth 100000 in
theorem imX8_bestGo : Cond.instanceMethod (iy mX8_bestGo) ∈ gTbl := gat 629 (by decide +kernel) (by decide +kernel)
set_option maxRecDepth 100000 in
theorem seX8_bestGo : Cond.selects (iy mX8_bestGo).cls (iy mX8_bestGo) (iy mX8_bestGo) ∈ gTbl := gat 630 (by decide +kernel) (by decide +kernel)
def mX8_take : vMI := (yX8_take, cX8_take, 3, (some .int), { frames := 7, cells := 0, slots := 0, locals := 169 })
set_option maxRecDepth 100000 in
theorem okX8_take : MOk mX8_take 1 := ⟨gat 635 (by decide +kernel) (by decide +kernel), gat 45 (by decide +kernel) (by decide +kernel), by decide +kernel, by decide +kernel, by decide +kernel, by decide +kernel⟩
set_option maxRecDepth 100000 in
theorem imX8_take : Cond.instanceMethod (iy mX8_take) ∈ gTbl := gat 633 (by decide +kernel) (by decide +kernel)
set_option maxRecDepth 100000 in
theorem seX8_take : Cond.selects (iy mX8_take).cls (iy mX8_take) (iy mX8_take) ∈ gTbl := gat 634 (by decide +kernel) (by decide +kernel)
def mX8_unlike : vMI := (yX8_unlike, cX8_unlike, 7, (some .int), { frames := 6, cells := 0, slots := 0, locals := 148 })
set_option maxRecDepth 100000 in
theorem okX8_unlike : MOk mX8_unlike 2 := ⟨gat 640 (by decide +kernel) (by decide +kernel), gat 45 (by decide +kernel) (by decide +kernel), by decide +kernel, by decide +kernel, by decide +kernel, by decide +kernel⟩
set_option maxRecDepth 100000 in
theorem imX8_unlike : Cond.instanceMethod (iy mX8_unlike) ∈ gTbl := gat 638 (by decide +kernel) (by decide +kernel)
set_option maxRecDepth 100000 in
theorem seX8_unlike : Cond.selects (iy mX8_unlike).cls (iy mX8_unlike) (iy mX8_unlike) ∈ gTbl := gat 639 (by decide +kernel) (by decide +kernel)
def mX8_look : vMI := (yX8_look, cX8_look, 8, (some .int), { frames := 6, cells := 0, slots := 0, locals := 148 })
set_option maxRecDepth 100000 in
theorem okX8_look : MOk mX8_look 3 := ⟨gat 648 (by decide +kernel) (by decide +kernel), gat 45 (by decide +kernel) (by decide +kernel), by decide +kernel, by decide +kernel, by decide +kernel, by decide +kernel⟩
set_option maxRecDepth 100000 in
theorem imX8_look : Cond.instanceMethod (iy mX8_look) ∈ gTbl := gat 646 (by decide +kernel) (by decide +kernel)
set_option maxRecDepth 100000 in
theorem seX8_look : Cond.selects (iy mX8_look).cls (iy mX8_look) (iy mX8_look) ∈ gTbl := gat 647 (by decide +kernel) (by decide +kernel)
def mX8_level : vMI := (yX8_level, cX8_level, 3, (some .int), { frames := 3, cells := 0, slots := 0, locals := 69 })
set_option maxRecDepth 100000 in
theorem okX8_level : MOk mX8_level 2 := ⟨gat 652 (by decide +kernel) (by decide +kernel), gat 45 (by decide +kernel) (by decide +kernel), by decide +kernel, by decide +kernel, by decide +kernel, by decide +kernel⟩
set_option maxRecDepth 100000 in
theorem imX8_level : Cond.instanceMethod (iy mX8_level) ∈ gTbl := gat 650 (by decide +kernel) (by decide +kernel)
set_option maxRecDepth 100000 in
theorem seX8_level : Cond.selects (iy mX8_level).cls (iy mX8_level) (iy mX8_level) ∈ gTbl := gat 651 (by decide +kernel) (by decide +kernel)
def mX8_lake : vMI := (yX8_lake, cX8_lake, 2, (some .int), { frames := 3, cells := 0, slots := 0, locals := 69 })
set_option maxRecDepth 100000 in
theorem okX8_lake : MOk mX8_lake 1 := ⟨gat 676 (by decide +kernel) (by decide +kernel), gat 45 (by decide +kernel) (by decide +kernel), by decide +kernel, by decide +kernel, by decide +kernel, by decide +kernel⟩
set_option maxRecDepth 100000 in
theorem imX8_lake : Cond.instanceMethod (iy mX8_lake) ∈ gTbl := gat 674 (by decide +kernel) (by decide +kernel)
set_option maxRecDepth 100000 in
theorem seX8_lake : Cond.selects (iy mX8_lake).cls (iy mX8_lake) (iy mX8_lake) ∈ gTbl := gat 675 (by decide +kernel) (by decide +kernel)
def mX8_sunk : vMI := (yX8_sunk, cX8_sunk, 8, (some .int), { frames := 2, cells := 0, slots := 0, locals := 44 })
set_option maxRecDepth 100000 in
theorem okX8_sunk : MOk mX8_sunk 3 := ⟨gat 685 (by decide +kernel) (by decide +kernel), gat 45 (by decide +kernel) (by decide +kernel), by decide +kernel, by decide +kernel, by decide +kernel, by decide +kernel⟩
set_option maxRecDepth 100000 in
theorem imX8_sunk : Cond.instanceMethod (iy mX8_sunk) ∈ gTbl := gat 683 (by decide +kernel) (by decide +kernel)
set_option maxRecDepth 100000 in
theorem seX8_sunk : Cond.selects (iy mX8_sunk).cls (iy mX8_sunk) (iy mX8_sunk) ∈ gTbl := gat 684 (by decide +kernel) (by decide +kernel)
def mX8_over : vMI := (yX8_over, cX8_over, 5, (some .int), { frames := 3, cells := 0, slots := 0, locals := 66 })
set_option maxRecDepth 100000 in
theorem okX8_over : MOk mX8_over 3 := ⟨gat 689 (by decide +kernel) (by decide +kernel), gat 45 (by decide +kernel) (by decide +kernel), by decide +kernel, by decide +kernel, by decide +kernel, by decide +kernel⟩
set_option maxRecDepth 100000 in
theorem imX8_over : Cond.instanceMethod (iy mX8_over) ∈ gTbl := gat 687 (by decide +kernel) (by decide +kernel)
set_option maxRecDepth 100000 in
theorem seX8_over : Cond.selects (iy mX8_over).cls (iy mX8_over) (iy mX8_over) ∈ gTbl := gat 688 (by decide +kernel) (by decide +kernel)
def mX8_above : vMI := (yX8_above, cX8_above, 3, (some .int), { frames := 2, cells := 0, slots := 0, locals := 42 })
set_option maxRecDepth 100000 in
theorem okX8_above : MOk mX8_above 2 := ⟨gat 713 (by decide +kernel) (by decide +kernel), gat 45 (by decide +kernel) (by decide +kernel), by decide +kernel, by decide +kernel, by decide +kernel, by decide +kernel⟩
set_option maxRecDepth 100000 in
theorem imX8_above : Cond.instanceMethod (iy mX8_above) ∈ gTbl := gat 711 (by decide +kernel) (by decide +kernel)
set_option maxRecDepth 100000 in
theorem seX8_above : Cond.selects (iy mX8_above).cls (iy mX8_above) (iy mX8_above) ∈ gTbl := gat 712 (by decide +kernel) (by decide +kernel)
def mX8_ring : vMI := (yX8_ring, cX8_ring, 3, (some .int), { frames := 2, cells := 0, slots := 0, locals := 42 })
set_option maxRecDepth 100000 in
theorem okX8_ring : MOk mX8_ring 0 := ⟨gat 718 (by decide +kernel) (by decide +kernel), gat 45 (by decide +kernel) (by decide +kernel), by decide +kernel, by decide +kernel, by decide +kernel, by decide +kernel⟩
set_option maxRecDepth 100000 in
theorem imX8_ring : Cond.instanceMethod (iy mX8_ring) ∈ gTbl := gat 716 (by decide +kernel) (by decide +kernel)
set_option maxRecDepth 100000 in
theorem seX8_ring : Cond.selects (iy mX8_ring).cls (iy mX8_ring) (iy mX8_ring) ∈ gTbl := gat 717 (by decide +kernel) (by decide +kernel)
def mX8_drops : vMI := (yX8_drops, cX8_drops, 1, (some .int), { frames := 3, cells := 0, slots := 0, locals := 66 })
set_option maxRecDepth 100000 in
theorem okX8_drops : MOk mX8_drops 0 := ⟨gat 722 (by decide +kernel) (by decide +kernel), gat 45 (by decide +kernel) (by decide +kernel), by decide +kernel, by decide +kernel, by decide +kernel, by decide +kernel⟩
set_option maxRecDepth 100000 in
theorem imX8_drops : Cond.instanceMethod (iy mX8_drops) ∈ gTbl := gat 720 (by decide +kernel) (by decide +kernel)
set_option maxRecDepth 100000 in
theorem seX8_drops : Cond.selects (iy mX8_drops).cls (iy mX8_drops) (iy mX8_drops) ∈ gTbl := gat 721 (by decide +kernel) (by decide +kernel)
def mX8_drop : vMI := (yX8_drop, cX8_drop, 5, (some .int), { frames := 3, cells := 0, slots := 0, locals := 66 })
set_option maxRecDepth 100000 in
theorem okX8_drop : MOk mX8_drop 1 := ⟨gat 741 (by decide +kernel) (by decide +kernel), gat 45 (by decide +kernel) (by decide +kernel), by decide +kernel, by decide +kernel, by decide +kernel, by decide +kernel⟩
set_option maxRecDepth 100000 in
theorem imX8_drop : Cond.instanceMethod (iy mX8_drop) ∈ gTbl := gat 739 (by decide +kernel) (by decide +kernel)
set_option maxRecDepth 100000 in
theorem seX8_drop : Cond.selects (iy mX8_drop).cls (iy mX8_drop) (iy mX8_drop) ∈ gTbl := gat 740 (by decide +kernel) (by decide +kernel)
def mX8_count : vMI := (yX8_count, cX8_count, 2, (some .int), { frames := 0, cells := 0, slots := 0, locals := 0 })
set_option maxRecDepth 100000 in
theorem okX8_count : MOk mX8_count 1 := ⟨gat 746 (by decide +kernel) (by decide +kernel), gat 45 (by decide +kernel) (by decide +kernel), by decide +kernel, by decide +kernel, by decide +kernel, by decide +kernel⟩
set_option maxRecDepth 100000 in
theorem imX8_count : Cond.instanceMethod (iy mX8_count) ∈ gTbl := gat 744 (by decide +kernel) (by decide +kernel)
set_option maxRecDepth 100000 in
theorem seX8_count : Cond.selects (iy mX8_count).cls (iy mX8_count) (iy mX8_count) ∈ gTbl := gat 745 (by decide +kernel) (by decide +kernel)
def mX8_rowOf : vMI := (yX8_rowOf, cX8_rowOf, 2, (some (.object "BoulderLand$Row")), { frames := 0, cells := 0, slots := 0, locals := 0 })
set_option maxRecDepth 100000 in
theorem okX8_rowOf : MOk mX8_rowOf 1 := ⟨gat 487 (by decide +kernel) (by decide +kernel), gat 45 (by decide +kernel) (by decide +kernel), by decide +kernel, by decide +kernel, by decide +kernel, by decide +kernel⟩
set_option maxRecDepth 100000 in
theorem imX8_rowOf : Cond.instanceMethod (iy mX8_rowOf) ∈ gTbl := gat 486 (by decide +kernel) (by decide +kernel)
set_option maxRecDepth 100000 in
theorem seX8_rowOf : Cond.selects (iy mX8_rowOf).cls (iy mX8_rowOf) (iy mX8_rowOf) ∈ gTbl := gat 6 (by decide +kernel) (by decide +kernel)
def mX8_mostExtra : vMI := (yX8_mostExtra, cX8_mostExtra, 1, (some .int), { frames := 0, cells := 0, slots := 0, locals := 0 })
set_option maxRecDepth 100000 in
theorem okX8_mostExtra : MOk mX8_mostExtra 1 := ⟨gat 539 (by decide +kernel) (by decide +kernel), gat 45 (by decide +kernel) (by decide +kernel), by decide +kernel, by decide +kernel, by decide +kernel, by decide +kernel⟩
set_option maxRecDepth 100000 in
theorem stX8_mostExtra : Cond.static (iy mX8_mostExtra) ∈ gTbl := gat 538 (by decide +kernel) (by decide +kernel)
def mX8_isSlot : vMI := (yX8_isSlot, cX8_isSlot, 1, (some .boolean), { frames := 1, cells := 0, slots := 0, locals := 22 })
set_option maxRecDepth 100000 in
theorem okX8_isSlot : MOk mX8_isSlot 1 := ⟨gat 483 (by decide +kernel) (by decide +kernel), gat 45 (by decide +kernel) (by decide +kernel), by decide +kernel, by decide +kernel, by decide +kernel, by decide +kernel⟩
set_option maxRecDepth 100000 in
theorem stX8_isSlot : Cond.static (iy mX8_isSlot) ∈ gTbl := gat 482 (by decide +kernel) (by decide +kernel)
def mX8_isLayer : vMI := (yX8_isLayer, cX8_isLayer, 1, (some .boolean), { frames := 1, cells := 0, slots := 0, locals := 22 })
set_option maxRecDepth 100000 in
theorem okX8_isLayer : MOk mX8_isLayer 1 := ⟨gat 692 (by decide +kernel) (by decide +kernel), gat 45 (by decide +kernel) (by decide +kernel), by decide +kernel, by decide +kernel, by decide +kernel, by decide +kernel⟩
set_option maxRecDepth 100000 in
theorem stX8_isLayer : Cond.static (iy mX8_isLayer) ∈ gTbl := gat 691 (by decide +kernel) (by decide +kernel)
def mX8_within : vMI := (yX8_within, cX8_within, 3, (some .boolean), { frames := 0, cells := 0, slots := 0, locals := 0 })
set_option maxRecDepth 100000 in
theorem okX8_within : MOk mX8_within 3 := ⟨gat 90 (by decide +kernel) (by decide +kernel), gat 45 (by decide +kernel) (by decide +kernel), by decide +kernel, by decide +kernel, by decide +kernel, by decide +kernel⟩
set_option maxRecDepth 100000 in
theorem stX8_within : Cond.static (iy mX8_within) ∈ gTbl := gat 89 (by decide +kernel) (by decide +kernel)
def mX8_bit : vMI := (yX8_bit, cX8_bit, 1, (some .int), { frames := 0, cells := 0, slots := 0, locals := 0 })
set_option maxRecDepth 100000 in
theorem okX8_bit : MOk mX8_bit 1 := ⟨gat 443 (by decide +kernel) (by decide +kernel), gat 45 (by decide +kernel) (by decide +kernel), by decide +kernel, by decide +kernel, by decide +kernel, by decide +kernel⟩
set_option maxRecDepth 100000 in
theorem stX8_bit : Cond.static (iy mX8_bit) ∈ gTbl := gat 442 (by decide +kernel) (by decide +kernel)
def mX9_init : vMI := (yX9_init, cX9_init, 1, none, { frames := 1, cells := 24, slots := 956, locals := 23 })
set_option maxRecDepth 100000 in
theorem okX9_init : MOk mX9_init 0 := ⟨gat 751 (by decide +kernel) (by decide +kernel), gat 55 (by decide +kernel) (by decide +kernel), by decide +kernel, by decide +kernel, by decide +kernel, by decide +kernel⟩
set_option maxRecDepth 100000 in
theorem imX9_init : Cond.instanceMethod (iy mX9_init) ∈ gTbl := gat 750 (by decide +kernel) (by decide +kernel)
def mX9_in : vMI := (yX9_in, cX9_in, 6, (some .boolean), { frames := 0, cells := 0, slots := 0, locals := 0 })
set_option maxRecDepth 100000 in
theorem okX9_in : MOk mX9_in 3 := ⟨gat 865 (by decide +kernel) (by decide +kernel), gat 55 (by decide +kernel) (by decide +kernel), by decide +kernel, by decide +kernel, by decide +kernel, by decide +kernel⟩
set_option maxRecDepth 100000 in
theorem stX9_in : Cond.static (iy mX9_in) ∈ gTbl := gat 864 (by decide +kernel) (by decide +kernel)
def mX9_layLand : vMI := (yX9_layLand, cX9_layLand, 4, none, { frames := 0, cells := 0, slots := 0, locals := 0 })
set_option maxRecDepth 100000 in
theorem okX9_layLand : MOk mX9_layLand 2 := ⟨gat 756 (by decide +kernel) (by decide +kernel), gat 55 (by decide +kernel) (by decide +kernel), by decide +kernel, by decide +kernel, by decide +kernel, by decide +kernel⟩
set_option maxRecDepth 100000 in
theorem imX9_layLand : Cond.instanceMethod (iy mX9_layLand) ∈ gTbl := gat 755 (by decide +kernel) (by decide +kernel)
set_option maxRecDepth 100000 in
theorem seX9_layLand : Cond.selects (iy mX9_layLand).cls (iy mX9_layLand) (iy mX9_layLand) ∈ gTbl := gat 14 (by decide +kernel) (by decide +kernel)
def mX9_cells : vMI := (yX9_cells, cX9_cells, 1, (some .int), { frames := 0, cells := 0, slots := 0, locals := 0 })
set_option maxRecDepth 100000 in
theorem okX9_cells : MOk mX9_cells 0 := ⟨gat 878 (by decide +kernel) (by decide +kernel), gat 55 (by decide +kernel) (by decide +kernel), by decide +kernel, by decide +kernel, by decide +kernel, by decide +kernel⟩
set_option maxRecDepth 100000 in
theorem imX9_cells : Cond.instanceMethod (iy mX9_cells) ∈ gTbl := gat 877 (by decide +kernel) (by decide +kernel)
set_option maxRecDepth 100000 in
theorem seX9_cells : Cond.selects (iy mX9_cells).cls (iy mX9_cells) (iy mX9_cells) ∈ gTbl := gat 16 (by decide +kernel) (by decide +kernel)
def mX9_isCell : vMI := (yX9_isCell, cX9_isCell, 2, (some .boolean), { frames := 1, cells := 0, slots := 0, locals := 25 })
set_option maxRecDepth 100000 in
theorem okX9_isCell : MOk mX9_isCell 1 := ⟨gat 874 (by decide +kernel) (by decide +kernel), gat 55 (by decide +kernel) (by decide +kernel), by decide +kernel, by decide +kernel, by decide +kernel, by decide +kernel⟩
set_option maxRecDepth 100000 in
theorem imX9_isCell : Cond.instanceMethod (iy mX9_isCell) ∈ gTbl := gat 873 (by decide +kernel) (by decide +kernel)
set_option maxRecDepth 100000 in
theorem seX9_isCell : Cond.selects (iy mX9_isCell).cls (iy mX9_isCell) (iy mX9_isCell) ∈ gTbl := gat 15 (by decide +kernel) (by decide +kernel)
def mX9_isStone : vMI := (yX9_isStone, cX9_isStone, 2, (some .boolean), { frames := 1, cells := 0, slots := 0, locals := 25 })
set_option maxRecDepth 100000 in
theorem okX9_isStone : MOk mX9_isStone 1 := ⟨gat 898 (by decide +kernel) (by decide +kernel), gat 55 (by decide +kernel) (by decide +kernel), by decide +kernel, by decide +kernel, by decide +kernel, by decide +kernel⟩
set_option maxRecDepth 100000 in
theorem imX9_isStone : Cond.instanceMethod (iy mX9_isStone) ∈ gTbl := gat 897 (by decide +kernel) (by decide +kernel)
set_option maxRecDepth 100000 in
theorem seX9_isStone : Cond.selects (iy mX9_isStone).cls (iy mX9_isStone) (iy mX9_isStone) ∈ gTbl := gat 17 (by decide +kernel) (by decide +kernel)
def mX9_isWeight : vMI := (yX9_isWeight, cX9_isWeight, 1, (some .boolean), { frames := 1, cells := 0, slots := 0, locals := 25 })
set_option maxRecDepth 100000 in
theorem okX9_isWeight : MOk mX9_isWeight 1 := ⟨gat 888 (by decide +kernel) (by decide +kernel), gat 55 (by decide +kernel) (by decide +kernel), by decide +kernel, by decide +kernel, by decide +kernel, by decide +kernel⟩
set_option maxRecDepth 100000 in
theorem stX9_isWeight : Cond.static (iy mX9_isWeight) ∈ gTbl := gat 887 (by decide +kernel) (by decide +kernel)
def mX9_land : vMI := (yX9_land, cX9_land, 3, (some .int), { frames := 1, cells := 0, slots := 0, locals := 25 })
set_option maxRecDepth 100000 in
theorem okX9_land : MOk mX9_land 2 := ⟨gat 860 (by decide +kernel) (by decide +kernel), gat 55 (by decide +kernel) (by decide +kernel), by decide +kernel, by decide +kernel, by decide +kernel, by decide +kernel⟩
set_option maxRecDepth 100000 in
theorem imX9_land : Cond.instanceMethod (iy mX9_land) ∈ gTbl := gat 858 (by decide +kernel) (by decide +kernel)
set_option maxRecDepth 100000 in
theorem seX9_land : Cond.selects (iy mX9_land).cls (iy mX9_land) (iy mX9_land) ∈ gTbl := gat 859 (by decide +kernel) (by decide +kernel)
def mX9_cell : vMI := (yX9_cell, cX9_cell, 5, (some .int), { frames := 2, cells := 0, slots := 0, locals := 46 })
set_option maxRecDepth 100000 in
theorem okX9_cell : MOk mX9_cell 3 := ⟨gat 870 (by decide +kernel) (by decide +kernel), gat 55 (by decide +kernel) (by decide +kernel), by decide +kernel, by decide +kernel, by decide +kernel, by decide +kernel⟩
set_option maxRecDepth 100000 in
theorem imX9_cell : Cond.instanceMethod (iy mX9_cell) ∈ gTbl := gat 868 (by decide +kernel) (by decide +kernel)
set_option maxRecDepth 100000 in
theorem seX9_cell : Cond.selects (iy mX9_cell).cls (iy mX9_cell) (iy mX9_cell) ∈ gTbl := gat 869 (by decide +kernel) (by decide +kernel)
def mX9_stone : vMI := (yX9_stone, cX9_stone, 4, (some .int), { frames := 2, cells := 0, slots := 0, locals := 46 })
set_option maxRecDepth 100000 in
theorem okX9_stone : MOk mX9_stone 3 := ⟨gat 885 (by decide +kernel) (by decide +kernel), gat 55 (by decide +kernel) (by decide +kernel), by decide +kernel, by decide +kernel, by decide +kernel, by decide +kernel⟩
set_option maxRecDepth 100000 in
theorem imX9_stone : Cond.instanceMethod (iy mX9_stone) ∈ gTbl := gat 883 (by decide +kernel) (by decide +kernel)
set_option maxRecDepth 100000 in
theorem seX9_stone : Cond.selects (iy mX9_stone).cls (iy mX9_stone) (iy mX9_stone) ∈ gTbl := gat 884 (by decide +kernel) (by decide +kernel)
def mX9_dug : vMI := (yX9_dug, cX9_dug, 4, (some .int), { frames := 2, cells := 0, slots := 0, locals := 46 })
set_option maxRecDepth 100000 in
theorem okX9_dug : MOk mX9_dug 2 := ⟨gat 894 (by decide +kernel) (by decide +kernel), gat 55 (by decide +kernel) (by decide +kernel), by decide +kernel, by decide +kernel, by decide +kernel, by decide +kernel⟩
set_option maxRecDepth 100000 in
theorem imX9_dug : Cond.instanceMethod (iy mX9_dug) ∈ gTbl := gat 892 (by decide +kernel) (by decide +kernel)
set_option maxRecDepth 100000 in
theorem seX9_dug : Cond.selects (iy mX9_dug).cls (iy mX9_dug) (iy mX9_dug) ∈ gTbl := gat 893 (by decide +kernel) (by decide +kernel)
def mX9_beside : vMI := (yX9_beside, cX9_beside, 5, (some .int), { frames := 1, cells := 0, slots := 0, locals := 25 })
set_option maxRecDepth 100000 in
theorem okX9_beside : MOk mX9_beside 2 := ⟨gat 929 (by decide +kernel) (by decide +kernel), gat 55 (by decide +kernel) (by decide +kernel), by decide +kernel, by decide +kernel, by decide +kernel, by decide +kernel⟩
set_option maxRecDepth 100000 in
theorem imX9_beside : Cond.instanceMethod (iy mX9_beside) ∈ gTbl := gat 928 (by decide +kernel) (by decide +kernel)
set_option maxRecDepth 100000 in
theorem seX9_beside : Cond.selects (iy mX9_beside).cls (iy mX9_beside) (iy mX9_beside) ∈ gTbl := gat 21 (by decide +kernel) (by decide +kernel)
def mX9_isEdge : vMI := (yX9_isEdge, cX9_isEdge, 2, (some .boolean), { frames := 0, cells := 0, slots := 0, locals := 0 })
set_option maxRecDepth 100000 in
theorem okX9_isEdge : MOk mX9_isEdge 1 := ⟨gat 937 (by decide +kernel) (by decide +kernel), gat 55 (by decide +kernel) (by decide +kernel), by decide +kernel, by decide +kernel, by decide +kernel, by decide +kernel⟩
set_option maxRecDepth 100000 in
theorem imX9_isEdge : Cond.instanceMethod (iy mX9_isEdge) ∈ gTbl := gat 936 (by decide +kernel) (by decide +kernel)
set_option maxRecDepth 100000 in
theorem seX9_isEdge : Cond.selects (iy mX9_isEdge).cls (iy mX9_isEdge) (iy mX9_isEdge) ∈ gTbl := gat 23 (by decide +kernel) (by decide +kernel)
def mX9_isGo : vMI := (yX9_isGo, cX9_isGo, 2, (some .boolean), { frames := 1, cells := 0, slots := 0, locals := 25 })
set_option maxRecDepth 100000 in
theorem okX9_isGo : MOk mX9_isGo 1 := ⟨gat 916 (by decide +kernel) (by decide +kernel), gat 55 (by decide +kernel) (by decide +kernel), by decide +kernel, by decide +kernel, by decide +kernel, by decide +kernel⟩
set_option maxRecDepth 100000 in
theorem imX9_isGo : Cond.instanceMethod (iy mX9_isGo) ∈ gTbl := gat 915 (by decide +kernel) (by decide +kernel)
set_option maxRecDepth 100000 in
theorem seX9_isGo : Cond.selects (iy mX9_isGo).cls (iy mX9_isGo) (iy mX9_isGo) ∈ gTbl := gat 18 (by decide +kernel) (by decide +kernel)
def mX9_ice : vMI := (yX9_ice, cX9_ice, 5, (some .int), { frames := 2, cells := 0, slots := 0, locals := 46 })
set_option maxRecDepth 100000 in
theorem okX9_ice : MOk mX9_ice 4 := ⟨gat 902 (by decide +kernel) (by decide +kernel), gat 55 (by decide +kernel) (by decide +kernel), by decide +kernel, by decide +kernel, by decide +kernel, by decide +kernel⟩
set_option maxRecDepth 100000 in
theorem imX9_ice : Cond.instanceMethod (iy mX9_ice) ∈ gTbl := gat 900 (by decide +kernel) (by decide +kernel)
set_option maxRecDepth 100000 in
theorem seX9_ice : Cond.selects (iy mX9_ice).cls (iy mX9_ice) (iy mX9_ice) ∈ gTbl := gat 901 (by decide +kernel) (by decide +kernel)
def mX9_flood : vMI := (yX9_flood, cX9_flood, 2, (some .int), { frames := 1, cells := 0, slots := 0, locals := 25 })
set_option maxRecDepth 100000 in
theorem okX9_flood : MOk mX9_flood 1 := ⟨gat 908 (by decide +kernel) (by decide +kernel), gat 55 (by decide +kernel) (by decide +kernel), by decide +kernel, by decide +kernel, by decide +kernel, by decide +kernel⟩
set_option maxRecDepth 100000 in
theorem imX9_flood : Cond.instanceMethod (iy mX9_flood) ∈ gTbl := gat 906 (by decide +kernel) (by decide +kernel)
set_option maxRecDepth 100000 in
theorem seX9_flood : Cond.selects (iy mX9_flood).cls (iy mX9_flood) (iy mX9_flood) ∈ gTbl := gat 907 (by decide +kernel) (by decide +kernel)
def mX9_layIce : vMI := (yX9_layIce, cX9_layIce, 9, none, { frames := 2, cells := 0, slots := 0, locals := 49 })
set_option maxRecDepth 100000 in
theorem okX9_layIce : MOk mX9_layIce 1 := ⟨gat 925 (by decide +kernel) (by decide +kernel), gat 55 (by decide +kernel) (by decide +kernel), by decide +kernel, by decide +kernel, by decide +kernel, by decide +kernel⟩
set_option maxRecDepth 100000 in
theorem imX9_layIce : Cond.instanceMethod (iy mX9_layIce) ∈ gTbl := gat 924 (by decide +kernel) (by decide +kernel)
set_option maxRecDepth 100000 in
theorem seX9_layIce : Cond.selects (iy mX9_layIce).cls (iy mX9_layIce) (iy mX9_layIce) ∈ gTbl := gat 20 (by decide +kernel) (by decide +kernel)
def mX9_layFlood : vMI := (yX9_layFlood, cX9_layFlood, 6, none, { frames := 2, cells := 0, slots := 0, locals := 49 })
set_option maxRecDepth 100000 in
theorem okX9_layFlood : MOk mX9_layFlood 1 := ⟨gat 933 (by decide +kernel) (by decide +kernel), gat 55 (by decide +kernel) (by decide +kernel), by decide +kernel, by decide +kernel, by decide +kernel, by decide +kernel⟩
set_option maxRecDepth 100000 in
theorem imX9_layFlood : Cond.instanceMethod (iy mX9_layFlood) ∈ gTbl := gat 932 (by decide +kernel) (by decide +kernel)
set_option maxRecDepth 100000 in
theorem seX9_layFlood : Cond.selects (iy mX9_layFlood).cls (iy mX9_layFlood) (iy mX9_layFlood) ∈ gTbl := gat 22 (by decide +kernel) (by decide +kernel)
def mX9_layGoes : vMI := (yX9_layGoes, cX9_layGoes, 2, none, { frames := 3, cells := 0, slots := 0, locals := 77 })
set_option maxRecDepth 100000 in
theorem okX9_layGoes : MOk mX9_layGoes 0 := ⟨gat 920 (by decide +kernel) (by decide +kernel), gat 55 (by decide +kernel) (by decide +kernel), by decide +kernel, by decide +kernel, by decide +kernel, by decide +kernel⟩
set_option maxRecDepth 100000 in
theorem imX9_layGoes : Cond.instanceMethod (iy mX9_layGoes) ∈ gTbl := gat 919 (by decide +kernel) (by decide +kernel)
set_option maxRecDepth 100000 in
theorem seX9_layGoes : Cond.selects (iy mX9_layGoes).cls (iy mX9_layGoes) (iy mX9_layGoes) ∈ gTbl := gat 19 (by decide +kernel) (by decide +kernel)
def mX9_isCovered : vMI := (yX9_isCovered, cX9_isCovered, 3, (some .boolean), { frames := 0, cells := 0, slots := 0, locals := 0 })
set_option maxRecDepth 100000 in
theorem okX9_isCovered : MOk mX9_isCovered 2 := ⟨gat 941 (by decide +kernel) (by decide +kernel), gat 55 (by decide +kernel) (by decide +kernel), by decide +kernel, by decide +kernel, by decide +kernel, by decide +kernel⟩
set_option maxRecDepth 100000 in
theorem imX9_isCovered : Cond.instanceMethod (iy mX9_isCovered) ∈ gTbl := gat 940 (by decide +kernel) (by decide +kernel)
set_option maxRecDepth 100000 in
theorem seX9_isCovered : Cond.selects (iy mX9_isCovered).cls (iy mX9_isCovered) (iy mX9_isCovered) ∈ gTbl := gat 24 (by decide +kernel) (by decide +kernel)
def mX9_thick : vMI := (yX9_thick, cX9_thick, 3, (some .int), { frames := 0, cells := 0, slots := 0, locals := 0 })
set_option maxRecDepth 100000 in
theorem okX9_thick : MOk mX9_thick 2 := ⟨gat 949 (by decide +kernel) (by decide +kernel), gat 55 (by decide +kernel) (by decide +kernel), by decide +kernel, by decide +kernel, by decide +kernel, by decide +kernel⟩
set_option maxRecDepth 100000 in
theorem imX9_thick : Cond.instanceMethod (iy mX9_thick) ∈ gTbl := gat 948 (by decide +kernel) (by decide +kernel)
set_option maxRecDepth 100000 in
theorem seX9_thick : Cond.selects (iy mX9_thick).cls (iy mX9_thick) (iy mX9_thick) ∈ gTbl := gat 25 (by decide +kernel) (by decide +kernel)
def mX9_isHeap : vMI := (yX9_isHeap, cX9_isHeap, 3, (some .boolean), { frames := 1, cells := 0, slots := 0, locals := 22 })
set_option maxRecDepth 100000 in
theorem okX9_isHeap : MOk mX9_isHeap 2 := ⟨gat 953 (by decide +kernel) (by decide +kernel), gat 55 (by decide +kernel) (by decide +kernel), by decide +kernel, by decide +kernel, by decide +kernel, by decide +kernel⟩
set_option maxRecDepth 100000 in
theorem imX9_isHeap : Cond.instanceMethod (iy mX9_isHeap) ∈ gTbl := gat 952 (by decide +kernel) (by decide +kernel)
set_option maxRecDepth 100000 in
theorem seX9_isHeap : Cond.selects (iy mX9_isHeap).cls (iy mX9_isHeap) (iy mX9_isHeap) ∈ gTbl := gat 26 (by decide +kernel) (by decide +kernel)
def mX9_covers : vMI := (yX9_covers, cX9_covers, 4, (some .int), { frames := 4, cells := 0, slots := 0, locals := 98 })
set_option maxRecDepth 100000 in
theorem okX9_covers : MOk mX9_covers 1 := ⟨gat 912 (by decide +kernel) (by decide +kernel), gat 55 (by decide +kernel) (by decide +kernel), by decide +kernel, by decide +kernel, by decide +kernel, by decide +kernel⟩
set_option maxRecDepth 100000 in
theorem imX9_covers : Cond.instanceMethod (iy mX9_covers) ∈ gTbl := gat 910 (by decide +kernel) (by decide +kernel)
set_option maxRecDepth 100000 in
theorem seX9_covers : Cond.selects (iy mX9_covers).cls (iy mX9_covers) (iy mX9_covers) ∈ gTbl := gat 911 (by decide +kernel) (by decide +kernel)
def mX9_by : vMI := (yX9_by, cX9_by, 5, (some .int), { frames := 4, cells := 0, slots := 0, locals := 98 })
set_option maxRecDepth 100000 in
theorem okX9_by : MOk mX9_by 3 := ⟨gat 945 (by decide +kernel) (by decide +kernel), gat 55 (by decide +kernel) (by decide +kernel), by decide +kernel, by decide +kernel, by decide +kernel, by decide +kernel⟩
set_option maxRecDepth 100000 in
theorem imX9_by : Cond.instanceMethod (iy mX9_by) ∈ gTbl := gat 943 (by decide +kernel) (by decide +kernel)
set_option maxRecDepth 100000 in
theorem seX9_by : Cond.selects (iy mX9_by).cls (iy mX9_by) (iy mX9_by) ∈ gTbl := gat 944 (by decide +kernel) (by decide +kernel)
def mX9_broughtBy : vMI := (yX9_broughtBy, cX9_broughtBy, 10, (some .int), { frames := 2, cells := 0, slots := 0, locals := 49 })
set_option maxRecDepth 100000 in
theorem okX9_broughtBy : MOk mX9_broughtBy 3 := ⟨gat 961 (by decide +kernel) (by decide +kernel), gat 55 (by decide +kernel) (by decide +kernel), by decide +kernel, by decide +kernel, by decide +kernel, by decide +kernel⟩
set_option maxRecDepth 100000 in
theorem imX9_broughtBy : Cond.instanceMethod (iy mX9_broughtBy) ∈ gTbl := gat 960 (by decide +kernel) (by decide +kernel)
set_option maxRecDepth 100000 in
theorem seX9_broughtBy : Cond.selects (iy mX9_broughtBy).cls (iy mX9_broughtBy) (iy mX9_broughtBy) ∈ gTbl := gat 27 (by decide +kernel) (by decide +kernel)
def mX9_brings : vMI := (yX9_brings, cX9_brings, 4, (some .int), { frames := 4, cells := 0, slots := 0, locals := 98 })
set_option maxRecDepth 100000 in
theorem okX9_brings : MOk mX9_brings 3 := ⟨gat 957 (by decide +kernel) (by decide +kernel), gat 55 (by decide +kernel) (by decide +kernel), by decide +kernel, by decide +kernel, by decide +kernel, by decide +kernel⟩
set_option maxRecDepth 100000 in
theorem imX9_brings : Cond.instanceMethod (iy mX9_brings) ∈ gTbl := gat 955 (by decide +kernel) (by decide +kernel)
set_option maxRecDepth 100000 in
theorem seX9_brings : Cond.selects (iy mX9_brings).cls (iy mX9_brings) (iy mX9_brings) ∈ gTbl := gat 956 (by decide +kernel) (by decide +kernel)
def mX9_isSlot : vMI := (yX9_isSlot, cX9_isSlot, 1, (some .boolean), { frames := 1, cells := 0, slots := 0, locals := 25 })
set_option maxRecDepth 100000 in
theorem okX9_isSlot : MOk mX9_isSlot 1 := ⟨gat 968 (by decide +kernel) (by decide +kernel), gat 55 (by decide +kernel) (by decide +kernel), by decide +kernel, by decide +kernel, by decide +kernel, by decide +kernel⟩
set_option maxRecDepth 100000 in
theorem stX9_isSlot : Cond.static (iy mX9_isSlot) ∈ gTbl := gat 967 (by decide +kernel) (by decide +kernel)
def mX9_then : vMI := (yX9_then, cX9_then, 4, (some .int), { frames := 2, cells := 0, slots := 0, locals := 46 })
set_option maxRecDepth 100000 in
theorem okX9_then : MOk mX9_then 2 := ⟨gat 965 (by decide +kernel) (by decide +kernel), gat 55 (by decide +kernel) (by decide +kernel), by decide +kernel, by decide +kernel, by decide +kernel, by decide +kernel⟩
set_option maxRecDepth 100000 in
theorem imX9_then : Cond.instanceMethod (iy mX9_then) ∈ gTbl := gat 963 (by decide +kernel) (by decide +kernel)
set_option maxRecDepth 100000 in
theorem seX9_then : Cond.selects (iy mX9_then).cls (iy mX9_then) (iy mX9_then) ∈ gTbl := gat 964 (by decide +kernel) (by decide +kernel)
def mX9_clear : vMI := (yX9_clear, cX9_clear, 3, (some .int), { frames := 2, cells := 0, slots := 0, locals := 45 })
set_option maxRecDepth 100000 in
theorem okX9_clear : MOk mX9_clear 1 := ⟨gat 973 (by decide +kernel) (by decide +kernel), gat 55 (by decide +kernel) (by decide +kernel), by decide +kernel, by decide +kernel, by decide +kernel, by decide +kernel⟩
set_option maxRecDepth 100000 in
theorem imX9_clear : Cond.instanceMethod (iy mX9_clear) ∈ gTbl := gat 971 (by decide +kernel) (by decide +kernel)
set_option maxRecDepth 100000 in
theorem seX9_clear : Cond.selects (iy mX9_clear).cls (iy mX9_clear) (iy mX9_clear) ∈ gTbl := gat 972 (by decide +kernel) (by decide +kernel)
def mX9_told : vMI := (yX9_told, cX9_told, 3, (some .int), { frames := 2, cells := 0, slots := 0, locals := 45 })
set_option maxRecDepth 100000 in
theorem okX9_told : MOk mX9_told 2 := ⟨gat 977 (by decide +kernel) (by decide +kernel), gat 55 (by decide +kernel) (by decide +kernel), by decide +kernel, by decide +kernel, by decide +kernel, by decide +kernel⟩
set_option maxRecDepth 100000 in
theorem imX9_told : Cond.instanceMethod (iy mX9_told) ∈ gTbl := gat 975 (by decide +kernel) (by decide +kernel)
set_option maxRecDepth 100000 in
theorem seX9_told : Cond.selects (iy mX9_told).cls (iy mX9_told) (iy mX9_told) ∈ gTbl := gat 976 (by decide +kernel) (by decide +kernel)
def mX9_layRow : vMI := (yX9_layRow, cX9_layRow, 3, none, { frames := 4, cells := 0, slots := 0, locals := 98 })
set_option maxRecDepth 100000 in
theorem okX9_layRow : MOk mX9_layRow 1 := ⟨gat 985 (by decide +kernel) (by decide +kernel), gat 55 (by decide +kernel) (by decide +kernel), by decide +kernel, by decide +kernel, by decide +kernel, by decide +kernel⟩
set_option maxRecDepth 100000 in
theorem imX9_layRow : Cond.instanceMethod (iy mX9_layRow) ∈ gTbl := gat 984 (by decide +kernel) (by decide +kernel)
set_option maxRecDepth 100000 in
theorem seX9_layRow : Cond.selects (iy mX9_layRow).cls (iy mX9_layRow) (iy mX9_layRow) ∈ gTbl := gat 28 (by decide +kernel) (by decide +kernel)
def mX9_endOf : vMI := (yX9_endOf, cX9_endOf, 5, (some .int), { frames := 3, cells := 0, slots := 0, locals := 78 })
set_option maxRecDepth 100000 in
theorem okX9_endOf : MOk mX9_endOf 2 := ⟨gat 989 (by decide +kernel) (by decide +kernel), gat 55 (by decide +kernel) (by decide +kernel), by decide +kernel, by decide +kernel, by decide +kernel, by decide +kernel⟩
set_option maxRecDepth 100000 in
theorem imX9_endOf : Cond.instanceMethod (iy mX9_endOf) ∈ gTbl := gat 988 (by decide +kernel) (by decide +kernel)
set_option maxRecDepth 100000 in
theorem seX9_endOf : Cond.selects (iy mX9_endOf).cls (iy mX9_endOf) (iy mX9_endOf) ∈ gTbl := gat 29 (by decide +kernel) (by decide +kernel)
def mX9_ends : vMI := (yX9_ends, cX9_ends, 4, (some .int), { frames := 5, cells := 0, slots := 0, locals := 120 })
set_option maxRecDepth 100000 in
theorem okX9_ends : MOk mX9_ends 3 := ⟨gat 981 (by decide +kernel) (by decide +kernel), gat 55 (by decide +kernel) (by decide +kernel), by decide +kernel, by decide +kernel, by decide +kernel, by decide +kernel⟩
set_option maxRecDepth 100000 in
theorem imX9_ends : Cond.instanceMethod (iy mX9_ends) ∈ gTbl := gat 979 (by decide +kernel) (by decide +kernel)
set_option maxRecDepth 100000 in
theorem seX9_ends : Cond.selects (iy mX9_ends).cls (iy mX9_ends) (iy mX9_ends) ∈ gTbl := gat 980 (by decide +kernel) (by decide +kernel)
def mX9_isWhence : vMI := (yX9_isWhence, cX9_isWhence, 3, (some .boolean), { frames := 4, cells := 0, slots := 0, locals := 102 })
set_option maxRecDepth 100000 in
theorem okX9_isWhence : MOk mX9_isWhence 2 := ⟨gat 1001 (by decide +kernel) (by decide +kernel), gat 55 (by decide +kernel) (by decide +kernel), by decide +kernel, by decide +kernel, by decide +kernel, by decide +kernel⟩
set_option maxRecDepth 100000 in
theorem imX9_isWhence : Cond.instanceMethod (iy mX9_isWhence) ∈ gTbl := gat 1000 (by decide +kernel) (by decide +kernel)
set_option maxRecDepth 100000 in
theorem seX9_isWhence : Cond.selects (iy mX9_isWhence).cls (iy mX9_isWhence) (iy mX9_isWhence) ∈ gTbl := gat 31 (by decide +kernel) (by decide +kernel)
def mX9_whenceOf : vMI := (yX9_whenceOf, cX9_whenceOf, 4, (some .int), { frames := 5, cells := 0, slots := 0, locals := 124 })
set_option maxRecDepth 100000 in
theorem okX9_whenceOf : MOk mX9_whenceOf 1 := ⟨gat 997 (by decide +kernel) (by decide +kernel), gat 55 (by decide +kernel) (by decide +kernel), by decide +kernel, by decide +kernel, by decide +kernel, by decide +kernel⟩
set_option maxRecDepth 100000 in
theorem imX9_whenceOf : Cond.instanceMethod (iy mX9_whenceOf) ∈ gTbl := gat 996 (by decide +kernel) (by decide +kernel)
set_option maxRecDepth 100000 in
theorem seX9_whenceOf : Cond.selects (iy mX9_whenceOf).cls (iy mX9_whenceOf) (iy mX9_whenceOf) ∈ gTbl := gat 30 (by decide +kernel) (by decide +kernel)
def mX9_whence : vMI := (yX9_whence, cX9_whence, 3, (some .int), { frames := 6, cells := 0, slots := 0, locals := 147 })
set_option maxRecDepth 100000 in
theorem okX9_whence : MOk mX9_whence 2 := ⟨gat 993 (by decide +kernel) (by decide +kernel), gat 55 (by decide +kernel) (by decide +kernel), by decide +kernel, by decide +kernel, by decide +kernel, by decide +kernel⟩
set_option maxRecDepth 100000 in
theorem imX9_whence : Cond.instanceMethod (iy mX9_whence) ∈ gTbl := gat 991 (by decide +kernel) (by decide +kernel)
set_option maxRecDepth 100000 in
theorem seX9_whence : Cond.selects (iy mX9_whence).cls (iy mX9_whence) (iy mX9_whence) ∈ gTbl := gat 992 (by decide +kernel) (by decide +kernel)
def mX9_from : vMI := (yX9_from, cX9_from, 6, (some .int), { frames := 5, cells := 0, slots := 0, locals := 124 })
set_option maxRecDepth 100000 in
theorem okX9_from : MOk mX9_from 3 := ⟨gat 1005 (by decide +kernel) (by decide +kernel), gat 55 (by decide +kernel) (by decide +kernel), by decide +kernel, by decide +kernel, by decide +kernel, by decide +kernel⟩
set_option maxRecDepth 100000 in
theorem imX9_from : Cond.instanceMethod (iy mX9_from) ∈ gTbl := gat 1003 (by decide +kernel) (by decide +kernel)
set_option maxRecDepth 100000 in
theorem seX9_from : Cond.selects (iy mX9_from).cls (iy mX9_from) (iy mX9_from) ∈ gTbl := gat 1004 (by decide +kernel) (by decide +kernel)
def mX9_sign : vMI := (yX9_sign, cX9_sign, 6, (some .int), { frames := 2, cells := 0, slots := 0, locals := 46 })
set_option maxRecDepth 100000 in
theorem okX9_sign : MOk mX9_sign 4 := ⟨gat 1009 (by decide +kernel) (by decide +kernel), gat 55 (by decide +kernel) (by decide +kernel), by decide +kernel, by decide +kernel, by decide +kernel, by decide +kernel⟩
set_option maxRecDepth 100000 in
theorem imX9_sign : Cond.instanceMethod (iy mX9_sign) ∈ gTbl := gat 1007 (by decide +kernel) (by decide +kernel)
set_option maxRecDepth 100000 in
theorem seX9_sign : Cond.selects (iy mX9_sign).cls (iy mX9_sign) (iy mX9_sign) ∈ gTbl := gat 1008 (by decide +kernel) (by decide +kernel)
def mX9_isSign : vMI := (yX9_isSign, cX9_isSign, 2, (some .boolean), { frames := 1, cells := 0, slots := 0, locals := 25 })
set_option maxRecDepth 100000 in
theorem okX9_isSign : MOk mX9_isSign 1 := ⟨gat 1019 (by decide +kernel) (by decide +kernel), gat 55 (by decide +kernel) (by decide +kernel), by decide +kernel, by decide +kernel, by decide +kernel, by decide +kernel⟩
set_option maxRecDepth 100000 in
theorem imX9_isSign : Cond.instanceMethod (iy mX9_isSign) ∈ gTbl := gat 1018 (by decide +kernel) (by decide +kernel)
set_option maxRecDepth 100000 in
theorem seX9_isSign : Cond.selects (iy mX9_isSign).cls (iy mX9_isSign) (iy mX9_isSign) ∈ gTbl := gat 32 (by decide +kernel) (by decide +kernel)
def mX9_forget : vMI := (yX9_forget, cX9_forget, 4, (some .int), { frames := 2, cells := 0, slots := 0, locals := 46 })
set_option maxRecDepth 100000 in
theorem okX9_forget : MOk mX9_forget 1 := ⟨gat 1015 (by decide +kernel) (by decide +kernel), gat 55 (by decide +kernel) (by decide +kernel), by decide +kernel, by decide +kernel, by decide +kernel, by decide +kernel⟩
set_option maxRecDepth 100000 in
theorem imX9_forget : Cond.instanceMethod (iy mX9_forget) ∈ gTbl := gat 1013 (by decide +kernel) (by decide +kernel)
set_option maxRecDepth 100000 in
theorem seX9_forget : Cond.selects (iy mX9_forget).cls (iy mX9_forget) (iy mX9_forget) ∈ gTbl := gat 1014 (by decide +kernel) (by decide +kernel)
def mX9_flowsIn : vMI := (yX9_flowsIn, cX9_flowsIn, 4, (some .boolean), { frames := 0, cells := 0, slots := 0, locals := 0 })
set_option maxRecDepth 100000 in
theorem okX9_flowsIn : MOk mX9_flowsIn 3 := ⟨gat 1035 (by decide +kernel) (by decide +kernel), gat 55 (by decide +kernel) (by decide +kernel), by decide +kernel, by decide +kernel, by decide +kernel, by decide +kernel⟩
set_option maxRecDepth 100000 in
theorem imX9_flowsIn : Cond.instanceMethod (iy mX9_flowsIn) ∈ gTbl := gat 1034 (by decide +kernel) (by decide +kernel)
set_option maxRecDepth 100000 in
theorem seX9_flowsIn : Cond.selects (iy mX9_flowsIn).cls (iy mX9_flowsIn) (iy mX9_flowsIn) ∈ gTbl := gat 35 (by decide +kernel) (by decide +kernel)
def mX9_hasThing : vMI := (yX9_hasThing, cX9_hasThing, 7, (some .boolean), { frames := 2, cells := 0, slots := 0, locals := 44 })
set_option maxRecDepth 100000 in
theorem okX9_hasThing : MOk mX9_hasThing 2 := ⟨gat 1031 (by decide +kernel) (by decide +kernel), gat 55 (by decide +kernel) (by decide +kernel), by decide +kernel, by decide +kernel, by decide +kernel, by decide +kernel⟩
set_option maxRecDepth 100000 in
theorem imX9_hasThing : Cond.instanceMethod (iy mX9_hasThing) ∈ gTbl := gat 1030 (by decide +kernel) (by decide +kernel)
set_option maxRecDepth 100000 in
theorem seX9_hasThing : Cond.selects (iy mX9_hasThing).cls (iy mX9_hasThing) (iy mX9_hasThing) ∈ gTbl := gat 34 (by decide +kernel) (by decide +kernel)
def mX9_hasCross : vMI := (yX9_hasCross, cX9_hasCross, 6, (some .boolean), { frames := 1, cells := 0, slots := 0, locals := 23 })
set_option maxRecDepth 100000 in
theorem okX9_hasCross : MOk mX9_hasCross 2 := ⟨gat 1039 (by decide +kernel) (by decide +kernel), gat 55 (by decide +kernel) (by decide +kernel), by decide +kernel, by decide +kernel, by decide +kernel, by decide +kernel⟩
set_option maxRecDepth 100000 in
theorem imX9_hasCross : Cond.instanceMethod (iy mX9_hasCross) ∈ gTbl := gat 1038 (by decide +kernel) (by decide +kernel)
set_option maxRecDepth 100000 in
theorem seX9_hasCross : Cond.selects (iy mX9_hasCross).cls (iy mX9_hasCross) (iy mX9_hasCross) ∈ gTbl := gat 36 (by decide +kernel) (by decide +kernel)
def mX9_isExplained : vMI := (yX9_isExplained, cX9_isExplained, 2, (some .boolean), { frames := 6, cells := 0, slots := 0, locals := 147 })
set_option maxRecDepth 100000 in
theorem okX9_isExplained : MOk mX9_isExplained 1 := ⟨gat 1027 (by decide +kernel) (by decide +kernel), gat 55 (by decide +kernel) (by decide +kernel), by decide +kernel, by decide +kernel, by decide +kernel, by decide +kernel⟩
set_option maxRecDepth 100000 in
theorem imX9_isExplained : Cond.instanceMethod (iy mX9_isExplained) ∈ gTbl := gat 1026 (by decide +kernel) (by decide +kernel)
set_option maxRecDepth 100000 in
theorem seX9_isExplained : Cond.selects (iy mX9_isExplained).cls (iy mX9_isExplained) (iy mX9_isExplained) ∈ gTbl := gat 33 (by decide +kernel) (by decide +kernel)
def mX9_explains : vMI := (yX9_explains, cX9_explains, 3, (some .int), { frames := 7, cells := 0, slots := 0, locals := 168 })
set_option maxRecDepth 100000 in
theorem okX9_explains : MOk mX9_explains 2 := ⟨gat 1023 (by decide +kernel) (by decide +kernel), gat 55 (by decide +kernel) (by decide +kernel), by decide +kernel, by decide +kernel, by decide +kernel, by decide +kernel⟩
set_option maxRecDepth 100000 in
theorem imX9_explains : Cond.instanceMethod (iy mX9_explains) ∈ gTbl := gat 1021 (by decide +kernel) (by decide +kernel)
set_option maxRecDepth 100000 in
theorem seX9_explains : Cond.selects (iy mX9_explains).cls (iy mX9_explains) (iy mX9_explains) ∈ gTbl := gat 1022 (by decide +kernel) (by decide +kernel)
def mX9_costOf : vMI := (yX9_costOf, cX9_costOf, 3, (some .int), { frames := 7, cells := 0, slots := 0, locals := 168 })
set_option maxRecDepth 100000 in
theorem okX9_costOf : MOk mX9_costOf 0 := ⟨gat 1047 (by decide +kernel) (by decide +kernel), gat 55 (by decide +kernel) (by decide +kernel), by decide +kernel, by decide +kernel, by decide +kernel, by decide +kernel⟩
set_option maxRecDepth 100000 in
theorem imX9_costOf : Cond.instanceMethod (iy mX9_costOf) ∈ gTbl := gat 1046 (by decide +kernel) (by decide +kernel)
set_option maxRecDepth 100000 in
theorem seX9_costOf : Cond.selects (iy mX9_costOf).cls (iy mX9_costOf) (iy mX9_costOf) ∈ gTbl := gat 37 (by decide +kernel) (by decide +kernel)
def mX9_costs : vMI := (yX9_costs, cX9_costs, 2, (some .int), { frames := 8, cells := 0, slots := 0, locals := 190 })
set_option maxRecDepth 100000 in
theorem okX9_costs : MOk mX9_costs 1 := ⟨gat 1043 (by decide +kernel) (by decide +kernel), gat 55 (by decide +kernel) (by decide +kernel), by decide +kernel, by decide +kernel, by decide +kernel, by decide +kernel⟩
set_option maxRecDepth 100000 in
theorem imX9_costs : Cond.instanceMethod (iy mX9_costs) ∈ gTbl := gat 1041 (by decide +kernel) (by decide +kernel)
set_option maxRecDepth 100000 in
theorem seX9_costs : Cond.selects (iy mX9_costs).cls (iy mX9_costs) (iy mX9_costs) ∈ gTbl := gat 1042 (by decide +kernel) (by decide +kernel)
def mX9_layCode : vMI := (yX9_layCode, cX9_layCode, 7, (some .boolean), { frames := 0, cells := 0, slots := 0, locals := 0 })
set_option maxRecDepth 100000 in
theorem okX9_layCode : MOk mX9_layCode 1 := ⟨gat 1060 (by decide +kernel) (by decide +kernel), gat 55 (by decide +kernel) (by decide +kernel), by decide +kernel, by decide +kernel, by decide +kernel, by decide +kernel⟩
set_option maxRecDepth 100000 in
theorem imX9_layCode : Cond.instanceMethod (iy mX9_layCode) ∈ gTbl := gat 1059 (by decide +kernel) (by decide +kernel)
set_option maxRecDepth 100000 in
theorem seX9_layCode : Cond.selects (iy mX9_layCode).cls (iy mX9_layCode) (iy mX9_layCode) ∈ gTbl := gat 39 (by decide +kernel) (by decide +kernel)
def mX9_layBest : vMI := (yX9_layBest, cX9_layBest, 4, none, { frames := 8, cells := 0, slots := 0, locals := 190 })
set_option maxRecDepth 100000 in
theorem okX9_layBest : MOk mX9_layBest 0 := ⟨gat 1055 (by decide +kernel) (by decide +kernel), gat 55 (by decide +kernel) (by decide +kernel), by decide +kernel, by decide +kernel, by decide +kernel, by decide +kernel⟩
set_option maxRecDepth 100000 in
theorem imX9_layBest : Cond.instanceMethod (iy mX9_layBest) ∈ gTbl := gat 1054 (by decide +kernel) (by decide +kernel)
set_option maxRecDepth 100000 in
theorem seX9_layBest : Cond.selects (iy mX9_layBest).cls (iy mX9_layBest) (iy mX9_layBest) ∈ gTbl := gat 38 (by decide +kernel) (by decide +kernel)
def mX9_fits : vMI := (yX9_fits, cX9_fits, 1, (some .int), { frames := 9, cells := 0, slots := 0, locals := 213 })
set_option maxRecDepth 100000 in
theorem okX9_fits : MOk mX9_fits 0 := ⟨gat 1051 (by decide +kernel) (by decide +kernel), gat 55 (by decide +kernel) (by decide +kernel), by decide +kernel, by decide +kernel, by decide +kernel, by decide +kernel⟩
set_option maxRecDepth 100000 in
theorem imX9_fits : Cond.instanceMethod (iy mX9_fits) ∈ gTbl := gat 1049 (by decide +kernel) (by decide +kernel)
set_option maxRecDepth 100000 in
theorem seX9_fits : Cond.selects (iy mX9_fits).cls (iy mX9_fits) (iy mX9_fits) ∈ gTbl := gat 1050 (by decide +kernel) (by decide +kernel)
def mX9_best : vMI := (yX9_best, cX9_best, 1, (some .int), { frames := 9, cells := 0, slots := 0, locals := 213 })
set_option maxRecDepth 100000 in
theorem okX9_best : MOk mX9_best 0 := ⟨gat 1064 (by decide +kernel) (by decide +kernel), gat 55 (by decide +kernel) (by decide +kernel), by decide +kernel, by decide +kernel, by decide +kernel, by decide +kernel⟩
set_option maxRecDepth 100000 in
theorem imX9_best : Cond.instanceMethod (iy mX9_best) ∈ gTbl := gat 1062 (by decide +kernel) (by decide +kernel)
set_option maxRecDepth 100000 in
theorem seX9_best : Cond.selects (iy mX9_best).cls (iy mX9_best) (iy mX9_best) ∈ gTbl := gat 1063 (by decide +kernel) (by decide +kernel)
def mX9_bestGo : vMI := (yX9_bestGo, cX9_bestGo, 2, (some .int), { frames := 9, cells := 0, slots := 0, locals := 213 })
set_option maxRecDepth 100000 in
theorem okX9_bestGo : MOk mX9_bestGo 1 := ⟨gat 1068 (by decide +kernel) (by decide +kernel), gat 55 (by decide +kernel) (by decide +kernel), by decide +kernel, by decide +kernel, by decide +kernel, by decide +kernel⟩
set_option maxRecDepth 100000 in
theorem imX9_bestGo : Cond.instanceMethod (iy mX9_bestGo) ∈ gTbl := gat 1066 (by decide +kernel) (by decide +kernel)
set_option maxRecDepth 100000 in
theorem seX9_bestGo : Cond.selects (iy mX9_bestGo).cls (iy mX9_bestGo) (iy mX9_bestGo) ∈ gTbl := gat 1067 (by decide +kernel) (by decide +kernel)
def mX9_take : vMI := (yX9_take, cX9_take, 3, (some .int), { frames := 9, cells := 0, slots := 0, locals := 213 })
set_option maxRecDepth 100000 in
theorem okX9_take : MOk mX9_take 1 := ⟨gat 1072 (by decide +kernel) (by decide +kernel), gat 55 (by decide +kernel) (by decide +kernel), by decide +kernel, by decide +kernel, by decide +kernel, by decide +kernel⟩
set_option maxRecDepth 100000 in
theorem imX9_take : Cond.instanceMethod (iy mX9_take) ∈ gTbl := gat 1070 (by decide +kernel) (by decide +kernel)
set_option maxRecDepth 100000 in
theorem seX9_take : Cond.selects (iy mX9_take).cls (iy mX9_take) (iy mX9_take) ∈ gTbl := gat 1071 (by decide +kernel) (by decide +kernel)
def mX9_layThings : vMI := (yX9_layThings, cX9_layThings, 3, none, { frames := 5, cells := 0, slots := 0, locals := 120 })
set_option maxRecDepth 100000 in
theorem okX9_layThings : MOk mX9_layThings 1 := ⟨gat 1080 (by decide +kernel) (by decide +kernel), gat 55 (by decide +kernel) (by decide +kernel), by decide +kernel, by decide +kernel, by decide +kernel, by decide +kernel⟩
set_option maxRecDepth 100000 in
theorem imX9_layThings : Cond.instanceMethod (iy mX9_layThings) ∈ gTbl := gat 1079 (by decide +kernel) (by decide +kernel)
set_option maxRecDepth 100000 in
theorem seX9_layThings : Cond.selects (iy mX9_layThings).cls (iy mX9_layThings) (iy mX9_layThings) ∈ gTbl := gat 40 (by decide +kernel) (by decide +kernel)
def mX9_unlike : vMI := (yX9_unlike, cX9_unlike, 5, (some .int), { frames := 6, cells := 0, slots := 0, locals := 142 })
set_option maxRecDepth 100000 in
theorem okX9_unlike : MOk mX9_unlike 2 := ⟨gat 1076 (by decide +kernel) (by decide +kernel), gat 55 (by decide +kernel) (by decide +kernel), by decide +kernel, by decide +kernel, by decide +kernel, by decide +kernel⟩
set_option maxRecDepth 100000 in
theorem imX9_unlike : Cond.instanceMethod (iy mX9_unlike) ∈ gTbl := gat 1074 (by decide +kernel) (by decide +kernel)
set_option maxRecDepth 100000 in
theorem seX9_unlike : Cond.selects (iy mX9_unlike).cls (iy mX9_unlike) (iy mX9_unlike) ∈ gTbl := gat 1075 (by decide +kernel) (by decide +kernel)
def mX9_look : vMI := (yX9_look, cX9_look, 6, (some .int), { frames := 6, cells := 0, slots := 0, locals := 142 })
set_option maxRecDepth 100000 in
theorem okX9_look : MOk mX9_look 3 := ⟨gat 1084 (by decide +kernel) (by decide +kernel), gat 55 (by decide +kernel) (by decide +kernel), by decide +kernel, by decide +kernel, by decide +kernel, by decide +kernel⟩
set_option maxRecDepth 100000 in
theorem imX9_look : Cond.instanceMethod (iy mX9_look) ∈ gTbl := gat 1082 (by decide +kernel) (by decide +kernel)
set_option maxRecDepth 100000 in
theorem seX9_look : Cond.selects (iy mX9_look).cls (iy mX9_look) (iy mX9_look) ∈ gTbl := gat 1083 (by decide +kernel) (by decide +kernel)
def mX9_layLake : vMI := (yX9_layLake, cX9_layLake, 7, none, { frames := 2, cells := 0, slots := 0, locals := 49 })
set_option maxRecDepth 100000 in
theorem okX9_layLake : MOk mX9_layLake 1 := ⟨gat 1092 (by decide +kernel) (by decide +kernel), gat 55 (by decide +kernel) (by decide +kernel), by decide +kernel, by decide +kernel, by decide +kernel, by decide +kernel⟩
set_option maxRecDepth 100000 in
theorem imX9_layLake : Cond.instanceMethod (iy mX9_layLake) ∈ gTbl := gat 1091 (by decide +kernel) (by decide +kernel)
set_option maxRecDepth 100000 in
theorem seX9_layLake : Cond.selects (iy mX9_layLake).cls (iy mX9_layLake) (iy mX9_layLake) ∈ gTbl := gat 41 (by decide +kernel) (by decide +kernel)
def mX9_level : vMI := (yX9_level, cX9_level, 3, (some .int), { frames := 4, cells := 0, slots := 0, locals := 98 })
set_option maxRecDepth 100000 in
theorem okX9_level : MOk mX9_level 2 := ⟨gat 1088 (by decide +kernel) (by decide +kernel), gat 55 (by decide +kernel) (by decide +kernel), by decide +kernel, by decide +kernel, by decide +kernel, by decide +kernel⟩
set_option maxRecDepth 100000 in
theorem imX9_level : Cond.instanceMethod (iy mX9_level) ∈ gTbl := gat 1086 (by decide +kernel) (by decide +kernel)
set_option maxRecDepth 100000 in
theorem seX9_level : Cond.selects (iy mX9_level).cls (iy mX9_level) (iy mX9_level) ∈ gTbl := gat 1087 (by decide +kernel) (by decide +kernel)
def mX9_lake : vMI := (yX9_lake, cX9_lake, 4, (some .int), { frames := 4, cells := 0, slots := 0, locals := 98 })
set_option maxRecDepth 100000 in
theorem okX9_lake : MOk mX9_lake 1 := ⟨gat 1096 (by decide +kernel) (by decide +kernel), gat 55 (by decide +kernel) (by decide +kernel), by decide +kernel, by decide +kernel, by decide +kernel, by decide +kernel⟩
set_option maxRecDepth 100000 in
theorem imX9_lake : Cond.instanceMethod (iy mX9_lake) ∈ gTbl := gat 1094 (by decide +kernel) (by decide +kernel)
set_option maxRecDepth 100000 in
theorem seX9_lake : Cond.selects (iy mX9_lake).cls (iy mX9_lake) (iy mX9_lake) ∈ gTbl := gat 1095 (by decide +kernel) (by decide +kernel)
def mX9_sunk : vMI := (yX9_sunk, cX9_sunk, 6, (some .int), { frames := 5, cells := 0, slots := 0, locals := 120 })
set_option maxRecDepth 100000 in
theorem okX9_sunk : MOk mX9_sunk 3 := ⟨gat 1100 (by decide +kernel) (by decide +kernel), gat 55 (by decide +kernel) (by decide +kernel), by decide +kernel, by decide +kernel, by decide +kernel, by decide +kernel⟩
set_option maxRecDepth 100000 in
theorem imX9_sunk : Cond.instanceMethod (iy mX9_sunk) ∈ gTbl := gat 1098 (by decide +kernel) (by decide +kernel)
set_option maxRecDepth 100000 in
theorem seX9_sunk : Cond.selects (iy mX9_sunk).cls (iy mX9_sunk) (iy mX9_sunk) ∈ gTbl := gat 1099 (by decide +kernel) (by decide +kernel)
def mX9_isLayer : vMI := (yX9_isLayer, cX9_isLayer, 1, (some .boolean), { frames := 1, cells := 0, slots := 0, locals := 25 })
set_option maxRecDepth 100000 in
theorem okX9_isLayer : MOk mX9_isLayer 1 := ⟨gat 1107 (by decide +kernel) (by decide +kernel), gat 55 (by decide +kernel) (by decide +kernel), by decide +kernel, by decide +kernel, by decide +kernel, by decide +kernel⟩
set_option maxRecDepth 100000 in
theorem stX9_isLayer : Cond.static (iy mX9_isLayer) ∈ gTbl := gat 1106 (by decide +kernel) (by decide +kernel)
def mX9_over : vMI := (yX9_over, cX9_over, 5, (some .int), { frames := 2, cells := 0, slots := 0, locals := 45 })
set_option maxRecDepth 100000 in
theorem okX9_over : MOk mX9_over 3 := ⟨gat 1104 (by decide +kernel) (by decide +kernel), gat 55 (by decide +kernel) (by decide +kernel), by decide +kernel, by decide +kernel, by decide +kernel, by decide +kernel⟩
set_option maxRecDepth 100000 in
theorem imX9_over : Cond.instanceMethod (iy mX9_over) ∈ gTbl := gat 1102 (by decide +kernel) (by decide +kernel)
set_option maxRecDepth 100000 in
theorem seX9_over : Cond.selects (iy mX9_over).cls (iy mX9_over) (iy mX9_over) ∈ gTbl := gat 1103 (by decide +kernel) (by decide +kernel)
def mX9_layUnder : vMI := (yX9_layUnder, cX9_layUnder, 4, (some .int), { frames := 0, cells := 0, slots := 0, locals := 0 })
set_option maxRecDepth 100000 in
theorem okX9_layUnder : MOk mX9_layUnder 1 := ⟨gat 1115 (by decide +kernel) (by decide +kernel), gat 55 (by decide +kernel) (by decide +kernel), by decide +kernel, by decide +kernel, by decide +kernel, by decide +kernel⟩
set_option maxRecDepth 100000 in
theorem imX9_layUnder : Cond.instanceMethod (iy mX9_layUnder) ∈ gTbl := gat 1114 (by decide +kernel) (by decide +kernel)
set_option maxRecDepth 100000 in
theorem seX9_layUnder : Cond.selects (iy mX9_layUnder).cls (iy mX9_layUnder) (iy mX9_layUnder) ∈ gTbl := gat 42 (by decide +kernel) (by decide +kernel)
def mX9_above : vMI := (yX9_above, cX9_above, 4, (some .int), { frames := 2, cells := 0, slots := 0, locals := 45 })
set_option maxRecDepth 100000 in
theorem okX9_above : MOk mX9_above 2 := ⟨gat 1111 (by decide +kernel) (by decide +kernel), gat 55 (by decide +kernel) (by decide +kernel), by decide +kernel, by decide +kernel, by decide +kernel, by decide +kernel⟩
set_option maxRecDepth 100000 in
theorem imX9_above : Cond.instanceMethod (iy mX9_above) ∈ gTbl := gat 1109 (by decide +kernel) (by decide +kernel)
set_option maxRecDepth 100000 in
theorem seX9_above : Cond.selects (iy mX9_above).cls (iy mX9_above) (iy mX9_above) ∈ gTbl := gat 1110 (by decide +kernel) (by decide +kernel)
def mX9_ring : vMI := (yX9_ring, cX9_ring, 1, (some .int), { frames := 1, cells := 0, slots := 0, locals := 23 })
set_option maxRecDepth 100000 in
theorem okX9_ring : MOk mX9_ring 0 := ⟨gat 1119 (by decide +kernel) (by decide +kernel), gat 55 (by decide +kernel) (by decide +kernel), by decide +kernel, by decide +kernel, by decide +kernel, by decide +kernel⟩
set_option maxRecDepth 100000 in
theorem imX9_ring : Cond.instanceMethod (iy mX9_ring) ∈ gTbl := gat 1117 (by decide +kernel) (by decide +kernel)
set_option maxRecDepth 100000 in
theorem seX9_ring : Cond.selects (iy mX9_ring).cls (iy mX9_ring) (iy mX9_ring) ∈ gTbl := gat 1118 (by decide +kernel) (by decide +kernel)
def mX9_ones : vMI := (yX9_ones, cX9_ones, 3, (some .int), { frames := 0, cells := 0, slots := 0, locals := 0 })
set_option maxRecDepth 100000 in
theorem okX9_ones : MOk mX9_ones 1 := ⟨gat 1130 (by decide +kernel) (by decide +kernel), gat 55 (by decide +kernel) (by decide +kernel), by decide +kernel, by decide +kernel, by decide +kernel, by decide +kernel⟩
set_option maxRecDepth 100000 in
theorem stX9_ones : Cond.static (iy mX9_ones) ∈ gTbl := gat 1129 (by decide +kernel) (by decide +kernel)
def mX9_fewest : vMI := (yX9_fewest, cX9_fewest, 6, (some .int), { frames := 1, cells := 0, slots := 0, locals := 23 })
set_option maxRecDepth 100000 in
theorem okX9_fewest : MOk mX9_fewest 0 := ⟨gat 1127 (by decide +kernel) (by decide +kernel), gat 55 (by decide +kernel) (by decide +kernel), by decide +kernel, by decide +kernel, by decide +kernel, by decide +kernel⟩
set_option maxRecDepth 100000 in
theorem imX9_fewest : Cond.instanceMethod (iy mX9_fewest) ∈ gTbl := gat 1126 (by decide +kernel) (by decide +kernel)
set_option maxRecDepth 100000 in
theorem seX9_fewest : Cond.selects (iy mX9_fewest).cls (iy mX9_fewest) (iy mX9_fewest) ∈ gTbl := gat 43 (by decide +kernel) (by decide +kernel)
def mX9_drops : vMI := (yX9_drops, cX9_drops, 1, (some .int), { frames := 2, cells := 0, slots := 0, locals := 48 })
set_option maxRecDepth 100000 in
theorem okX9_drops : MOk mX9_drops 0 := ⟨gat 1123 (by decide +kernel) (by decide +kernel), gat 55 (by decide +kernel) (by decide +kernel), by decide +kernel, by decide +kernel, by decide +kernel, by decide +kernel⟩
set_option maxRecDepth 100000 in
theorem imX9_drops : Cond.instanceMethod (iy mX9_drops) ∈ gTbl := gat 1121 (by decide +kernel) (by decide +kernel)
set_option maxRecDepth 100000 in
theorem seX9_drops : Cond.selects (iy mX9_drops).cls (iy mX9_drops) (iy mX9_drops) ∈ gTbl := gat 1122 (by decide +kernel) (by decide +kernel)
def mX9_drop : vMI := (yX9_drop, cX9_drop, 5, (some .int), { frames := 2, cells := 0, slots := 0, locals := 48 })
set_option maxRecDepth 100000 in
theorem okX9_drop : MOk mX9_drop 1 := ⟨gat 1134 (by decide +kernel) (by decide +kernel), gat 55 (by decide +kernel) (by decide +kernel), by decide +kernel, by decide +kernel, by decide +kernel, by decide +kernel⟩
set_option maxRecDepth 100000 in
theorem imX9_drop : Cond.instanceMethod (iy mX9_drop) ∈ gTbl := gat 1132 (by decide +kernel) (by decide +kernel)
set_option maxRecDepth 100000 in
theorem seX9_drop : Cond.selects (iy mX9_drop).cls (iy mX9_drop) (iy mX9_drop) ∈ gTbl := gat 1133 (by decide +kernel) (by decide +kernel)
def mX9_count : vMI := (yX9_count, cX9_count, 4, (some .int), { frames := 1, cells := 0, slots := 0, locals := 22 })
set_option maxRecDepth 100000 in
theorem okX9_count : MOk mX9_count 1 := ⟨gat 1138 (by decide +kernel) (by decide +kernel), gat 55 (by decide +kernel) (by decide +kernel), by decide +kernel, by decide +kernel, by decide +kernel, by decide +kernel⟩
set_option maxRecDepth 100000 in
theorem imX9_count : Cond.instanceMethod (iy mX9_count) ∈ gTbl := gat 1136 (by decide +kernel) (by decide +kernel)
set_option maxRecDepth 100000 in
theorem seX9_count : Cond.selects (iy mX9_count).cls (iy mX9_count) (iy mX9_count) ∈ gTbl := gat 1137 (by decide +kernel) (by decide +kernel)
def mJ6_bitCount_0f7a4 : vMI := (yJ6_bitCount_0f7a4, cJ6_bitCount_0f7a4, 1, (some .int), { frames := 0, cells := 0, slots := 0, locals := 0 })
set_option maxRecDepth 100000 in
theorem okJ6_bitCount_0f7a4 : MOk mJ6_bitCount_0f7a4 1 := ⟨gat 729 (by decide +kernel) (by decide +kernel), gat 58 (by decide +kernel) (by decide +kernel), by decide +kernel, by decide +kernel, by decide +kernel, by decide +kernel⟩
set_option maxRecDepth 100000 in
theorem stJ6_bitCount_0f7a4 : Cond.static (iy mJ6_bitCount_0f7a4) ∈ gTbl := gat 728 (by decide +kernel) (by decide +kernel)
def mJ9_max_7cf53 : vMI := (yJ9_max_7cf53, cJ9_max_7cf53, 2, (some .int), { frames := 0, cells := 0, slots := 0, locals := 0 })
set_option maxRecDepth 100000 in
theorem stJ9_max_7cf53 : Cond.static (iy mJ9_max_7cf53) ∈ gTbl := gat 664 (by decide +kernel) (by decide +kernel)
def mJ9_min_7cf53 : vMI := (yJ9_min_7cf53, cJ9_min_7cf53, 2, (some .int), { frames := 0, cells := 0, slots := 0, locals := 0 })
set_option maxRecDepth 100000 in
theorem stJ9_min_7cf53 : Cond.static (iy mJ9_min_7cf53) ∈ gTbl := gat 667 (by decide +kernel) (by decide +kernel)
def mJ7_fill_53178 : vMI := (yJ7_fill_53178, cJ7_fill_53178, 4, none, { frames := 0, cells := 0, slots := 0, locals := 0 })
set_option maxRecDepth 100000 in
theorem okJ7_fill_53178 : MOk mJ7_fill_53178 2 := ⟨gat 79 (by decide +kernel) (by decide +kernel), gat 47 (by decide +kernel) (by decide +kernel), by decide +kernel, by decide +kernel, by decide +kernel, by decide +kernel⟩
set_option maxRecDepth 100000 in
theorem stJ7_fill_53178 : Cond.static (iy mJ7_fill_53178) ∈ gTbl := gat 78 (by decide +kernel) (by decide +kernel)
def mL_law : vMI := (yL_law, cL_law, 4, some .boolean, room_1)
set_option maxRecDepth 100000 in
theorem lkL_9 : LkM RL 9 yX8_init := Or.inl (gat 61 (by decide +kernel) (by decide +kernel))
set_option maxRecDepth 100000 in
theorem oiX8_1 : Cond.methodLink RX8 1 Lib.objectInit ∈ gTbl := gat 64 (by decide +kernel) (by decide +kernel)
set_option maxRecDepth 100000 in
theorem lkX8_9 : LkM RX8 9 yX1_init := Or.inl (gat 69 (by decide +kernel) (by decide +kernel))
set_option maxRecDepth 100000 in
theorem oiX1_3 : Cond.methodLink RX1 3 Lib.objectInit ∈ gTbl := gat 72 (by decide +kernel) (by decide +kernel)
set_option maxRecDepth 100000 in
theorem lkX1_21 : LkM RX1 21 yX1_lay := Or.inl (gat 73 (by decide +kernel) (by decide +kernel))
set_option maxRecDepth 100000 in
theorem lkX1_29 : LkM RX1 29 yJ7_fill_53178 := Or.inl (gat 77 (by decide +kernel) (by decide +kernel))
set_option maxRecDepth 100000 in
theorem lkX1_35 : LkM RX1 35 yX1_layBeside := Or.inl (gat 80 (by decide +kernel) (by decide +kernel))
set_option maxRecDepth 100000 in
theorem lkX1_45 : LkM RX1 45 yX8_within := Or.inr ⟨"BoulderLand", nat_ 88 (by decide +kernel) (by decide +kernel)⟩
set_option maxRecDepth 100000 in
theorem lkX8_18 : LkM RX8 18 yX5_init := Or.inr ⟨"BoulderLand", nat_ 118 (by decide +kernel) (by decide +kernel)⟩
set_option maxRecDepth 100000 in
theorem oiX5_3 : Cond.methodLink RX5 3 Lib.objectInit ∈ gTbl := gat 121 (by decide +kernel) (by decide +kernel)
set_option maxRecDepth 100000 in
theorem lkX8_25 : LkM RX8 25 yX0_init := Or.inl (gat 142 (by decide +kernel) (by decide +kernel))
set_option maxRecDepth 100000 in
theorem oiX0_3 : Cond.methodLink RX0 3 Lib.objectInit ∈ gTbl := gat 145 (by decide +kernel) (by decide +kernel)
set_option maxRecDepth 100000 in
theorem lkX8_34 : LkM RX8 34 yX3_init := Or.inr ⟨"BoulderLand", nat_ 187 (by decide +kernel) (by decide +kernel)⟩
set_option maxRecDepth 100000 in
theorem oiX3_3 : Cond.methodLink RX3 3 Lib.objectInit ∈ gTbl := gat 190 (by decide +kernel) (by decide +kernel)
set_option maxRecDepth 100000 in
theorem lkX8_47 : LkM RX8 47 yX4_init := Or.inl (gat 206 (by decide +kernel) (by decide +kernel))
set_option maxRecDepth 100000 in
theorem oiX4_3 : Cond.methodLink RX4 3 Lib.objectInit ∈ gTbl := gat 209 (by decide +kernel) (by decide +kernel)
set_option maxRecDepth 100000 in
theorem lkX8_56 : LkM RX8 56 yX6_init := Or.inl (gat 238 (by decide +kernel) (by decide +kernel))
set_option maxRecDepth 100000 in
theorem oiX6_3 : Cond.methodLink RX6 3 Lib.objectInit ∈ gTbl := gat 241 (by decide +kernel) (by decide +kernel)
set_option maxRecDepth 100000 in
theorem lkX6_11 : LkM RX6 11 yX3_init := Or.inr ⟨"BoulderLand", nat_ 243 (by decide +kernel) (by decide +kernel)⟩
set_option maxRecDepth 100000 in
theorem lkX8_65 : LkM RX8 65 yX7_init := Or.inl (gat 272 (by decide +kernel) (by decide +kernel))
set_option maxRecDepth 100000 in
theorem oiX7_3 : Cond.methodLink RX7 3 Lib.objectInit ∈ gTbl := gat 275 (by decide +kernel) (by decide +kernel)
set_option maxRecDepth 100000 in
theorem lkX8_74 : LkM RX8 74 yX2_init := Or.inr ⟨"BoulderLand", nat_ 289 (by decide +kernel) (by decide +kernel)⟩
set_option maxRecDepth 100000 in
theorem oiX2_3 : Cond.methodLink RX2 3 Lib.objectInit ∈ gTbl := gat 292 (by decide +kernel) (by decide +kernel)
set_option maxRecDepth 100000 in
theorem lkL_13 : LkM RL 13 yX8_land := Or.inl (gat 341 (by decide +kernel) (by decide +kernel))
set_option maxRecDepth 100000 in
theorem lkX8_79 : LkM RX8 79 yX8_within := Or.inl (gat 345 (by decide +kernel) (by decide +kernel))
set_option maxRecDepth 100000 in
theorem lkX8_84 : LkM RX8 84 yX1_lay := Or.inl (gat 347 (by decide +kernel) (by decide +kernel))
set_option maxRecDepth 100000 in
theorem lkL_18 : LkM RL 18 yX8_cell := Or.inl (gat 348 (by decide +kernel) (by decide +kernel))
set_option maxRecDepth 100000 in
theorem lkX8_100 : LkM RX8 100 yX1_has := Or.inl (gat 352 (by decide +kernel) (by decide +kernel))
set_option maxRecDepth 100000 in
theorem lkX8_112 : LkM RX8 112 yX0_spreadAll := Or.inl (gat 357 (by decide +kernel) (by decide +kernel))
set_option maxRecDepth 100000 in
theorem lkX0_50 : LkM RX0 50 yX0_spread := Or.inl (gat 361 (by decide +kernel) (by decide +kernel))
set_option maxRecDepth 100000 in
theorem lkX0_60 : LkM RX0 60 yX1_isEdge := Or.inl (gat 365 (by decide +kernel) (by decide +kernel))
set_option maxRecDepth 100000 in
theorem lkX0_64 : LkM RX0 64 yX0_reach := Or.inl (gat 369 (by decide +kernel) (by decide +kernel))
set_option maxRecDepth 100000 in
theorem lkX0_78 : LkM RX0 78 yX0_isCovered := Or.inl (gat 373 (by decide +kernel) (by decide +kernel))
set_option maxRecDepth 100000 in
theorem lkX0_71 : LkM RX0 71 yX0_distAt := Or.inl (gat 377 (by decide +kernel) (by decide +kernel))
set_option maxRecDepth 100000 in
theorem lkX0_75 : LkM RX0 75 yX0_findCourse := Or.inl (gat 381 (by decide +kernel) (by decide +kernel))
set_option maxRecDepth 100000 in
theorem lkX0_85 : LkM RX0 85 yX0_leads := Or.inl (gat 385 (by decide +kernel) (by decide +kernel))
set_option maxRecDepth 100000 in
theorem lkX0_88 : LkM RX0 88 yX0_isBefore := Or.inl (gat 389 (by decide +kernel) (by decide +kernel))
set_option maxRecDepth 100000 in
theorem lkL_23 : LkM RL 23 yX8_stone := Or.inl (gat 393 (by decide +kernel) (by decide +kernel))
set_option maxRecDepth 100000 in
theorem lkX8_115 : LkM RX8 115 yX5_add := Or.inl (gat 397 (by decide +kernel) (by decide +kernel))
set_option maxRecDepth 100000 in
theorem lkL_27 : LkM RL 27 yX8_dug := Or.inl (gat 402 (by decide +kernel) (by decide +kernel))
set_option maxRecDepth 100000 in
theorem lkX8_119 : LkM RX8 119 yX5_has := Or.inl (gat 406 (by decide +kernel) (by decide +kernel))
set_option maxRecDepth 100000 in
theorem lkX5_25 : LkM RX5 25 yX8_within := Or.inr ⟨"BoulderLand", nat_ 410 (by decide +kernel) (by decide +kernel)⟩
set_option maxRecDepth 100000 in
theorem lkL_31 : LkM RL 31 yX8_ice := Or.inl (gat 411 (by decide +kernel) (by decide +kernel))
set_option maxRecDepth 100000 in
theorem lkX8_123 : LkM RX8 123 yX0_addIce := Or.inl (gat 415 (by decide +kernel) (by decide +kernel))
set_option maxRecDepth 100000 in
theorem lkL_36 : LkM RL 36 yX8_flood := Or.inl (gat 420 (by decide +kernel) (by decide +kernel))
set_option maxRecDepth 100000 in
theorem lkX8_127 : LkM RX8 127 yX0_addFlood := Or.inl (gat 424 (by decide +kernel) (by decide +kernel))
set_option maxRecDepth 100000 in
theorem lkL_41 : LkM RL 41 yX8_covers := Or.inl (gat 428 (by decide +kernel) (by decide +kernel))
set_option maxRecDepth 100000 in
theorem lkX8_131 : LkM RX8 131 yX0_has := Or.inl (gat 432 (by decide +kernel) (by decide +kernel))
set_option maxRecDepth 100000 in
theorem lkX0_45 : LkM RX0 45 yX8_within := Or.inr ⟨"BoulderLand", nat_ 436 (by decide +kernel) (by decide +kernel)⟩
set_option maxRecDepth 100000 in
theorem lkX8_132 : LkM RX8 132 yX0_countCovered := Or.inl (gat 437 (by decide +kernel) (by decide +kernel))
set_option maxRecDepth 100000 in
theorem lkX0_94 : LkM RX0 94 yX8_bit := Or.inr ⟨"BoulderLand", nat_ 441 (by decide +kernel) (by decide +kernel)⟩
set_option maxRecDepth 100000 in
theorem lkL_45 : LkM RL 45 yX8_by := Or.inl (gat 444 (by decide +kernel) (by decide +kernel))
set_option maxRecDepth 100000 in
theorem lkX8_135 : LkM RX8 135 yX0_isCovered := Or.inl (gat 448 (by decide +kernel) (by decide +kernel))
set_option maxRecDepth 100000 in
theorem lkX8_139 : LkM RX8 139 yX8_bit := Or.inl (gat 449 (by decide +kernel) (by decide +kernel))
set_option maxRecDepth 100000 in
theorem lkX8_143 : LkM RX8 143 yX0_isIced := Or.inl (gat 450 (by decide +kernel) (by decide +kernel))
set_option maxRecDepth 100000 in
theorem lkX8_146 : LkM RX8 146 yX0_distAt := Or.inl (gat 454 (by decide +kernel) (by decide +kernel))
set_option maxRecDepth 100000 in
theorem lkX8_151 : LkM RX8 151 yX0_thickAt := Or.inl (gat 456 (by decide +kernel) (by decide +kernel))
set_option maxRecDepth 100000 in
theorem lkX8_154 : LkM RX8 154 yX0_courseAt := Or.inl (gat 460 (by decide +kernel) (by decide +kernel))
set_option maxRecDepth 100000 in
theorem lkX8_157 : LkM RX8 157 yX0_isHeap := Or.inl (gat 464 (by decide +kernel) (by decide +kernel))
set_option maxRecDepth 100000 in
theorem lkX0_91 : LkM RX0 91 yX0_courseAt := Or.inl (gat 468 (by decide +kernel) (by decide +kernel))
set_option maxRecDepth 100000 in
theorem lkL_49 : LkM RL 49 yX8_brings := Or.inl (gat 469 (by decide +kernel) (by decide +kernel))
set_option maxRecDepth 100000 in
theorem lkX8_160 : LkM RX8 160 yX0_carry := Or.inl (gat 473 (by decide +kernel) (by decide +kernel))
set_option maxRecDepth 100000 in
theorem lkL_53 : LkM RL 53 yX8_then := Or.inl (gat 477 (by decide +kernel) (by decide +kernel))
set_option maxRecDepth 100000 in
theorem lkX8_163 : LkM RX8 163 yX8_isSlot := Or.inl (gat 481 (by decide +kernel) (by decide +kernel))
set_option maxRecDepth 100000 in
theorem lkX8_166 : LkM RX8 166 yX8_rowOf := Or.inl (gat 484 (by decide +kernel) (by decide +kernel))
set_option maxRecDepth 100000 in
theorem lkX8_170 : LkM RX8 170 yX3_has := Or.inl (gat 488 (by decide +kernel) (by decide +kernel))
set_option maxRecDepth 100000 in
theorem lkX8_172 : LkM RX8 172 yX3_add := Or.inl (gat 493 (by decide +kernel) (by decide +kernel))
set_option maxRecDepth 100000 in
theorem lkL_57 : LkM RL 57 yX8_clear := Or.inl (gat 497 (by decide +kernel) (by decide +kernel))
set_option maxRecDepth 100000 in
theorem lkL_61 : LkM RL 61 yX8_told := Or.inl (gat 501 (by decide +kernel) (by decide +kernel))
set_option maxRecDepth 100000 in
theorem lkX8_175 : LkM RX8 175 yX3_at := Or.inl (gat 505 (by decide +kernel) (by decide +kernel))
set_option maxRecDepth 100000 in
theorem lkX3_19 : LkM RX3 19 yX8_within := Or.inr ⟨"BoulderLand", nat_ 509 (by decide +kernel) (by decide +kernel)⟩
set_option maxRecDepth 100000 in
theorem lkL_65 : LkM RL 65 yX8_ends := Or.inl (gat 511 (by decide +kernel) (by decide +kernel))
set_option maxRecDepth 100000 in
theorem lkX8_178 : LkM RX8 178 yX0_carryAlong := Or.inl (gat 515 (by decide +kernel) (by decide +kernel))
set_option maxRecDepth 100000 in
theorem lkX0_104 : LkM RX0 104 yX0_carry := Or.inl (gat 519 (by decide +kernel) (by decide +kernel))
set_option maxRecDepth 100000 in
theorem lkL_69 : LkM RL 69 yX8_whence := Or.inl (gat 520 (by decide +kernel) (by decide +kernel))
set_option maxRecDepth 100000 in
theorem lkX8_182 : LkM RX8 182 yX4_canComeFrom := Or.inl (gat 524 (by decide +kernel) (by decide +kernel))
set_option maxRecDepth 100000 in
theorem lkX4_60 : LkM RX4 60 yX0_carryAlong := Or.inl (gat 528 (by decide +kernel) (by decide +kernel))
set_option maxRecDepth 100000 in
theorem lkL_73 : LkM RL 73 yX8_from := Or.inl (gat 529 (by decide +kernel) (by decide +kernel))
set_option maxRecDepth 100000 in
theorem lkL_77 : LkM RL 77 yX8_sign := Or.inl (gat 533 (by decide +kernel) (by decide +kernel))
set_option maxRecDepth 100000 in
theorem lkX8_186 : LkM RX8 186 yX8_mostExtra := Or.inl (gat 537 (by decide +kernel) (by decide +kernel))
set_option maxRecDepth 100000 in
theorem lkX8_189 : LkM RX8 189 yX4_add := Or.inl (gat 540 (by decide +kernel) (by decide +kernel))
set_option maxRecDepth 100000 in
theorem lkL_81 : LkM RL 81 yX8_forget := Or.inl (gat 545 (by decide +kernel) (by decide +kernel))
set_option maxRecDepth 100000 in
theorem lkX8_191 : LkM RX8 191 yX4_has := Or.inl (gat 549 (by decide +kernel) (by decide +kernel))
set_option maxRecDepth 100000 in
theorem lkX4_40 : LkM RX4 40 yX8_within := Or.inr ⟨"BoulderLand", nat_ 553 (by decide +kernel) (by decide +kernel)⟩
set_option maxRecDepth 100000 in
theorem lkX8_192 : LkM RX8 192 yX4_remove := Or.inl (gat 554 (by decide +kernel) (by decide +kernel))
set_option maxRecDepth 100000 in
theorem lkL_85 : LkM RL 85 yX8_explains := Or.inl (gat 558 (by decide +kernel) (by decide +kernel))
set_option maxRecDepth 100000 in
theorem lkX8_195 : LkM RX8 195 yX4_isExplained := Or.inl (gat 562 (by decide +kernel) (by decide +kernel))
set_option maxRecDepth 100000 in
theorem lkX4_45 : LkM RX4 45 yX4_holds := Or.inl (gat 566 (by decide +kernel) (by decide +kernel))
set_option maxRecDepth 100000 in
theorem lkX4_67 : LkM RX4 67 yX4_comesFromSomewhere := Or.inl (gat 570 (by decide +kernel) (by decide +kernel))
set_option maxRecDepth 100000 in
theorem lkX4_102 : LkM RX4 102 yX4_canComeFrom := Or.inl (gat 574 (by decide +kernel) (by decide +kernel))
set_option maxRecDepth 100000 in
theorem lkX4_71 : LkM RX4 71 yX4_isCrossed := Or.inl (gat 575 (by decide +kernel) (by decide +kernel))
set_option maxRecDepth 100000 in
theorem lkX4_84 : LkM RX4 84 yX0_isFlowing := Or.inl (gat 579 (by decide +kernel) (by decide +kernel))
set_option maxRecDepth 100000 in
theorem lkX4_80 : LkM RX4 80 yX4_isDoneBy := Or.inl (gat 583 (by decide +kernel) (by decide +kernel))
set_option maxRecDepth 100000 in
theorem lkX4_87 : LkM RX4 87 yX0_isHeap := Or.inl (gat 587 (by decide +kernel) (by decide +kernel))
set_option maxRecDepth 100000 in
theorem lkX4_95 : LkM RX4 95 yX0_isCovered := Or.inl (gat 588 (by decide +kernel) (by decide +kernel))
set_option maxRecDepth 100000 in
theorem lkX4_98 : LkM RX4 98 yX0_isIced := Or.inl (gat 589 (by decide +kernel) (by decide +kernel))
set_option maxRecDepth 100000 in
theorem lkL_89 : LkM RL 89 yX8_costs := Or.inl (gat 590 (by decide +kernel) (by decide +kernel))
set_option maxRecDepth 100000 in
theorem lkX8_199 : LkM RX8 199 yX4_costOf := Or.inl (gat 594 (by decide +kernel) (by decide +kernel))
set_option maxRecDepth 100000 in
theorem lkL_93 : LkM RL 93 yX8_fits := Or.inl (gat 598 (by decide +kernel) (by decide +kernel))
set_option maxRecDepth 100000 in
theorem lkX8_203 : LkM RX8 203 yX6_renew := Or.inl (gat 602 (by decide +kernel) (by decide +kernel))
set_option maxRecDepth 100000 in
theorem lkX6_45 : LkM RX6 45 yX3_spell := Or.inl (gat 606 (by decide +kernel) (by decide +kernel))
set_option maxRecDepth 100000 in
theorem lkX3_30 : LkM RX3 30 yX3_has := Or.inl (gat 610 (by decide +kernel) (by decide +kernel))
set_option maxRecDepth 100000 in
theorem lkX6_49 : LkM RX6 49 yX4_costOf := Or.inl (gat 611 (by decide +kernel) (by decide +kernel))
set_option maxRecDepth 100000 in
theorem lkX6_55 : LkM RX6 55 yX6_weigh := Or.inl (gat 612 (by decide +kernel) (by decide +kernel))
set_option maxRecDepth 100000 in
theorem lkX6_59 : LkM RX6 59 yX8_bit := Or.inr ⟨"BoulderLand", nat_ 616 (by decide +kernel) (by decide +kernel)⟩
set_option maxRecDepth 100000 in
theorem lkX6_63 : LkM RX6 63 yX3_copy := Or.inl (gat 617 (by decide +kernel) (by decide +kernel))
set_option maxRecDepth 100000 in
theorem acX3_24 : Cond.methodLink RX3 24 arraycopyName ∈ gTbl := gat 621 (by decide +kernel) (by decide +kernel)
set_option maxRecDepth 100000 in
theorem lkL_98 : LkM RL 98 yX8_best := Or.inl (gat 624 (by decide +kernel) (by decide +kernel))
set_option maxRecDepth 100000 in
theorem lkL_102 : LkM RL 102 yX8_bestGo := Or.inl (gat 628 (by decide +kernel) (by decide +kernel))
set_option maxRecDepth 100000 in
theorem lkL_106 : LkM RL 106 yX8_take := Or.inl (gat 632 (by decide +kernel) (by decide +kernel))
set_option maxRecDepth 100000 in
theorem lkX8_215 : LkM RX8 215 yX3_copy := Or.inl (gat 636 (by decide +kernel) (by decide +kernel))
set_option maxRecDepth 100000 in
theorem lkL_110 : LkM RL 110 yX8_unlike := Or.inl (gat 637 (by decide +kernel) (by decide +kernel))
set_option maxRecDepth 100000 in
theorem lkX8_219 : LkM RX8 219 yX4_tellApart := Or.inl (gat 641 (by decide +kernel) (by decide +kernel))
set_option maxRecDepth 100000 in
theorem lkL_114 : LkM RL 114 yX8_look := Or.inl (gat 645 (by decide +kernel) (by decide +kernel))
set_option maxRecDepth 100000 in
theorem lkL_118 : LkM RL 118 yX8_level := Or.inl (gat 649 (by decide +kernel) (by decide +kernel))
set_option maxRecDepth 100000 in
theorem lkX8_227 : LkM RX8 227 yX7_stand := Or.inl (gat 653 (by decide +kernel) (by decide +kernel))
set_option maxRecDepth 100000 in
theorem lkX7_29 : LkM RX7 29 yX1_isEdge := Or.inl (gat 657 (by decide +kernel) (by decide +kernel))
set_option maxRecDepth 100000 in
theorem lkX7_33 : LkM RX7 33 yX0_isCovered := Or.inl (gat 658 (by decide +kernel) (by decide +kernel))
set_option maxRecDepth 100000 in
theorem lkX7_42 : LkM RX7 42 yX7_runOut := Or.inl (gat 659 (by decide +kernel) (by decide +kernel))
set_option maxRecDepth 100000 in
theorem lkX7_48 : LkM RX7 48 yJ9_max_7cf53 := Or.inl (gat 663 (by decide +kernel) (by decide +kernel))
set_option maxRecDepth 100000 in
theorem lkX7_54 : LkM RX7 54 yJ9_min_7cf53 := Or.inl (gat 666 (by decide +kernel) (by decide +kernel))
set_option maxRecDepth 100000 in
theorem lkX8_230 : LkM RX8 230 yX7_isClosed := Or.inl (gat 669 (by decide +kernel) (by decide +kernel))
set_option maxRecDepth 100000 in
theorem lkL_122 : LkM RL 122 yX8_lake := Or.inl (gat 673 (by decide +kernel) (by decide +kernel))
set_option maxRecDepth 100000 in
theorem lkX8_236 : LkM RX8 236 yX7_sumDeep := Or.inl (gat 677 (by decide +kernel) (by decide +kernel))
set_option maxRecDepth 100000 in
theorem lkX7_57 : LkM RX7 57 yX7_isClosed := Or.inl (gat 681 (by decide +kernel) (by decide +kernel))
set_option maxRecDepth 100000 in
theorem lkL_126 : LkM RL 126 yX8_sunk := Or.inl (gat 682 (by decide +kernel) (by decide +kernel))
set_option maxRecDepth 100000 in
theorem lkL_130 : LkM RL 130 yX8_over := Or.inl (gat 686 (by decide +kernel) (by decide +kernel))
set_option maxRecDepth 100000 in
theorem lkX8_243 : LkM RX8 243 yX8_isLayer := Or.inl (gat 690 (by decide +kernel) (by decide +kernel))
set_option maxRecDepth 100000 in
theorem lkX8_246 : LkM RX8 246 yX2_isToldOver := Or.inl (gat 693 (by decide +kernel) (by decide +kernel))
set_option maxRecDepth 100000 in
theorem lkX2_18 : LkM RX2 18 yX2_mask := Or.inl (gat 697 (by decide +kernel) (by decide +kernel))
set_option maxRecDepth 100000 in
theorem lkX8_249 : LkM RX8 249 yX2_turn := Or.inl (gat 700 (by decide +kernel) (by decide +kernel))
set_option maxRecDepth 100000 in
theorem lkX2_26 : LkM RX2 26 yX2_isToldOver := Or.inl (gat 704 (by decide +kernel) (by decide +kernel))
set_option maxRecDepth 100000 in
theorem acX2_34 : Cond.methodLink RX2 34 arraycopyName ∈ gTbl := gat 705 (by decide +kernel) (by decide +kernel)
set_option maxRecDepth 100000 in
theorem lkX2_40 : LkM RX2 40 yX2_isRoundAbout := Or.inl (gat 706 (by decide +kernel) (by decide +kernel))
set_option maxRecDepth 100000 in
theorem lkL_135 : LkM RL 135 yX8_above := Or.inl (gat 710 (by decide +kernel) (by decide +kernel))
set_option maxRecDepth 100000 in
theorem lkX8_252 : LkM RX8 252 yX2_isRoundAbout := Or.inl (gat 714 (by decide +kernel) (by decide +kernel))
set_option maxRecDepth 100000 in
theorem lkL_139 : LkM RL 139 yX8_ring := Or.inl (gat 715 (by decide +kernel) (by decide +kernel))
set_option maxRecDepth 100000 in
theorem lkL_143 : LkM RL 143 yX8_drops := Or.inl (gat 719 (by decide +kernel) (by decide +kernel))
set_option maxRecDepth 100000 in
theorem lkX8_255 : LkM RX8 255 yX2_fewestDropped := Or.inl (gat 723 (by decide +kernel) (by decide +kernel))
set_option maxRecDepth 100000 in
theorem lkX2_46 : LkM RX2 46 yJ6_bitCount_0f7a4 := Or.inl (gat 727 (by decide +kernel) (by decide +kernel))
set_option maxRecDepth 100000 in
theorem lkX2_51 : LkM RX2 51 yX2_isWithoutRing := Or.inl (gat 733 (by decide +kernel) (by decide +kernel))
set_option maxRecDepth 100000 in
theorem lkX8_258 : LkM RX8 258 yJ6_bitCount_0f7a4 := Or.inl (gat 737 (by decide +kernel) (by decide +kernel))
set_option maxRecDepth 100000 in
theorem lkL_147 : LkM RL 147 yX8_drop := Or.inl (gat 738 (by decide +kernel) (by decide +kernel))
set_option maxRecDepth 100000 in
theorem lkX8_263 : LkM RX8 263 yX2_mask := Or.inl (gat 742 (by decide +kernel) (by decide +kernel))
set_option maxRecDepth 100000 in
theorem lkL_151 : LkM RL 151 yX8_count := Or.inl (gat 743 (by decide +kernel) (by decide +kernel))
set_option maxRecDepth 100000 in
theorem lkL_12 : LkM RL 12 yX9_init := Or.inl (gat 749 (by decide +kernel) (by decide +kernel))
set_option maxRecDepth 100000 in
theorem oiX9_1 : Cond.methodLink RX9 1 Lib.objectInit ∈ gTbl := gat 752 (by decide +kernel) (by decide +kernel)
set_option maxRecDepth 100000 in
theorem lkX9_83 : LkM RX9 83 yX9_layLand := Or.inl (gat 753 (by decide +kernel) (by decide +kernel))
set_option maxRecDepth 100000 in
theorem lkL_17 : LkM RL 17 yX9_land := Or.inl (gat 857 (by decide +kernel) (by decide +kernel))
set_option maxRecDepth 100000 in
theorem lkX9_107 : LkM RX9 107 yX9_in := Or.inl (gat 863 (by decide +kernel) (by decide +kernel))
set_option maxRecDepth 100000 in
theorem lkL_22 : LkM RL 22 yX9_cell := Or.inl (gat 867 (by decide +kernel) (by decide +kernel))
set_option maxRecDepth 100000 in
theorem lkX9_118 : LkM RX9 118 yX9_isCell := Or.inl (gat 871 (by decide +kernel) (by decide +kernel))
set_option maxRecDepth 100000 in
theorem lkX9_103 : LkM RX9 103 yX9_cells := Or.inl (gat 875 (by decide +kernel) (by decide +kernel))
set_option maxRecDepth 100000 in
theorem lkL_26 : LkM RL 26 yX9_stone := Or.inl (gat 882 (by decide +kernel) (by decide +kernel))
set_option maxRecDepth 100000 in
theorem lkX9_127 : LkM RX9 127 yX9_isWeight := Or.inl (gat 886 (by decide +kernel) (by decide +kernel))
set_option maxRecDepth 100000 in
theorem lkL_30 : LkM RL 30 yX9_dug := Or.inl (gat 891 (by decide +kernel) (by decide +kernel))
set_option maxRecDepth 100000 in
theorem lkX9_131 : LkM RX9 131 yX9_isStone := Or.inl (gat 895 (by decide +kernel) (by decide +kernel))
set_option maxRecDepth 100000 in
theorem lkL_35 : LkM RL 35 yX9_ice := Or.inl (gat 899 (by decide +kernel) (by decide +kernel))
set_option maxRecDepth 100000 in
theorem lkL_40 : LkM RL 40 yX9_flood := Or.inl (gat 905 (by decide +kernel) (by decide +kernel))
set_option maxRecDepth 100000 in
theorem lkL_44 : LkM RL 44 yX9_covers := Or.inl (gat 909 (by decide +kernel) (by decide +kernel))
set_option maxRecDepth 100000 in
theorem lkX9_157 : LkM RX9 157 yX9_isGo := Or.inl (gat 913 (by decide +kernel) (by decide +kernel))
set_option maxRecDepth 100000 in
theorem lkX9_160 : LkM RX9 160 yX9_layGoes := Or.inl (gat 917 (by decide +kernel) (by decide +kernel))
set_option maxRecDepth 100000 in
theorem lkX9_146 : LkM RX9 146 yX9_layIce := Or.inl (gat 922 (by decide +kernel) (by decide +kernel))
set_option maxRecDepth 100000 in
theorem lkX9_139 : LkM RX9 139 yX9_beside := Or.inl (gat 926 (by decide +kernel) (by decide +kernel))
set_option maxRecDepth 100000 in
theorem lkX9_150 : LkM RX9 150 yX9_layFlood := Or.inl (gat 930 (by decide +kernel) (by decide +kernel))
set_option maxRecDepth 100000 in
theorem lkX9_143 : LkM RX9 143 yX9_isEdge := Or.inl (gat 934 (by decide +kernel) (by decide +kernel))
set_option maxRecDepth 100000 in
theorem lkX9_153 : LkM RX9 153 yX9_isCovered := Or.inl (gat 938 (by decide +kernel) (by decide +kernel))
set_option maxRecDepth 100000 in
theorem lkL_48 : LkM RL 48 yX9_by := Or.inl (gat 942 (by decide +kernel) (by decide +kernel))
set_option maxRecDepth 100000 in
theorem lkX9_163 : LkM RX9 163 yX9_thick := Or.inl (gat 946 (by decide +kernel) (by decide +kernel))
set_option maxRecDepth 100000 in
theorem lkX9_166 : LkM RX9 166 yX9_isHeap := Or.inl (gat 950 (by decide +kernel) (by decide +kernel))
set_option maxRecDepth 100000 in
theorem lkL_52 : LkM RL 52 yX9_brings := Or.inl (gat 954 (by decide +kernel) (by decide +kernel))
set_option maxRecDepth 100000 in
theorem lkX9_169 : LkM RX9 169 yX9_broughtBy := Or.inl (gat 958 (by decide +kernel) (by decide +kernel))
set_option maxRecDepth 100000 in
theorem lkL_56 : LkM RL 56 yX9_then := Or.inl (gat 962 (by decide +kernel) (by decide +kernel))
set_option maxRecDepth 100000 in
theorem lkX9_173 : LkM RX9 173 yX9_isSlot := Or.inl (gat 966 (by decide +kernel) (by decide +kernel))
set_option maxRecDepth 100000 in
theorem lkL_60 : LkM RL 60 yX9_clear := Or.inl (gat 970 (by decide +kernel) (by decide +kernel))
set_option maxRecDepth 100000 in
theorem lkL_64 : LkM RL 64 yX9_told := Or.inl (gat 974 (by decide +kernel) (by decide +kernel))
set_option maxRecDepth 100000 in
theorem lkL_68 : LkM RL 68 yX9_ends := Or.inl (gat 978 (by decide +kernel) (by decide +kernel))
set_option maxRecDepth 100000 in
theorem lkX9_180 : LkM RX9 180 yX9_layRow := Or.inl (gat 982 (by decide +kernel) (by decide +kernel))
set_option maxRecDepth 100000 in
theorem lkX9_183 : LkM RX9 183 yX9_endOf := Or.inl (gat 986 (by decide +kernel) (by decide +kernel))
set_option maxRecDepth 100000 in
theorem lkL_72 : LkM RL 72 yX9_whence := Or.inl (gat 990 (by decide +kernel) (by decide +kernel))
set_option maxRecDepth 100000 in
theorem lkX9_189 : LkM RX9 189 yX9_whenceOf := Or.inl (gat 994 (by decide +kernel) (by decide +kernel))
set_option maxRecDepth 100000 in
theorem lkX9_186 : LkM RX9 186 yX9_isWhence := Or.inl (gat 998 (by decide +kernel) (by decide +kernel))
set_option maxRecDepth 100000 in
theorem lkL_76 : LkM RL 76 yX9_from := Or.inl (gat 1002 (by decide +kernel) (by decide +kernel))
set_option maxRecDepth 100000 in
theorem lkL_80 : LkM RL 80 yX9_sign := Or.inl (gat 1006 (by decide +kernel) (by decide +kernel))
set_option maxRecDepth 100000 in
theorem lkL_84 : LkM RL 84 yX9_forget := Or.inl (gat 1012 (by decide +kernel) (by decide +kernel))
set_option maxRecDepth 100000 in
theorem lkX9_197 : LkM RX9 197 yX9_isSign := Or.inl (gat 1016 (by decide +kernel) (by decide +kernel))
set_option maxRecDepth 100000 in
theorem lkL_88 : LkM RL 88 yX9_explains := Or.inl (gat 1020 (by decide +kernel) (by decide +kernel))
set_option maxRecDepth 100000 in
theorem lkX9_210 : LkM RX9 210 yX9_isExplained := Or.inl (gat 1024 (by decide +kernel) (by decide +kernel))
set_option maxRecDepth 100000 in
theorem lkX9_204 : LkM RX9 204 yX9_hasThing := Or.inl (gat 1028 (by decide +kernel) (by decide +kernel))
set_option maxRecDepth 100000 in
theorem lkX9_200 : LkM RX9 200 yX9_flowsIn := Or.inl (gat 1032 (by decide +kernel) (by decide +kernel))
set_option maxRecDepth 100000 in
theorem lkX9_207 : LkM RX9 207 yX9_hasCross := Or.inl (gat 1036 (by decide +kernel) (by decide +kernel))
set_option maxRecDepth 100000 in
theorem lkL_92 : LkM RL 92 yX9_costs := Or.inl (gat 1040 (by decide +kernel) (by decide +kernel))
set_option maxRecDepth 100000 in
theorem lkX9_213 : LkM RX9 213 yX9_costOf := Or.inl (gat 1044 (by decide +kernel) (by decide +kernel))
set_option maxRecDepth 100000 in
theorem lkL_97 : LkM RL 97 yX9_fits := Or.inl (gat 1048 (by decide +kernel) (by decide +kernel))
set_option maxRecDepth 100000 in
theorem lkX9_229 : LkM RX9 229 yX9_layBest := Or.inl (gat 1052 (by decide +kernel) (by decide +kernel))
set_option maxRecDepth 100000 in
theorem lkX9_223 : LkM RX9 223 yX9_layCode := Or.inl (gat 1057 (by decide +kernel) (by decide +kernel))
set_option maxRecDepth 100000 in
theorem lkL_101 : LkM RL 101 yX9_best := Or.inl (gat 1061 (by decide +kernel) (by decide +kernel))
set_option maxRecDepth 100000 in
theorem lkL_105 : LkM RL 105 yX9_bestGo := Or.inl (gat 1065 (by decide +kernel) (by decide +kernel))
set_option maxRecDepth 100000 in
theorem lkL_109 : LkM RL 109 yX9_take := Or.inl (gat 1069 (by decide +kernel) (by decide +kernel))
set_option maxRecDepth 100000 in
theorem lkL_113 : LkM RL 113 yX9_unlike := Or.inl (gat 1073 (by decide +kernel) (by decide +kernel))
set_option maxRecDepth 100000 in
theorem lkX9_232 : LkM RX9 232 yX9_layThings := Or.inl (gat 1077 (by decide +kernel) (by decide +kernel))
set_option maxRecDepth 100000 in
theorem lkL_117 : LkM RL 117 yX9_look := Or.inl (gat 1081 (by decide +kernel) (by decide +kernel))
set_option maxRecDepth 100000 in
theorem lkL_121 : LkM RL 121 yX9_level := Or.inl (gat 1085 (by decide +kernel) (by decide +kernel))
set_option maxRecDepth 100000 in
theorem lkX9_235 : LkM RX9 235 yX9_layLake := Or.inl (gat 1089 (by decide +kernel) (by decide +kernel))
set_option maxRecDepth 100000 in
theorem lkL_125 : LkM RL 125 yX9_lake := Or.inl (gat 1093 (by decide +kernel) (by decide +kernel))
set_option maxRecDepth 100000 in
theorem lkL_129 : LkM RL 129 yX9_sunk := Or.inl (gat 1097 (by decide +kernel) (by decide +kernel))
set_option maxRecDepth 100000 in
theorem lkL_134 : LkM RL 134 yX9_over := Or.inl (gat 1101 (by decide +kernel) (by decide +kernel))
set_option maxRecDepth 100000 in
theorem lkX9_238 : LkM RX9 238 yX9_isLayer := Or.inl (gat 1105 (by decide +kernel) (by decide +kernel))
set_option maxRecDepth 100000 in
theorem lkL_138 : LkM RL 138 yX9_above := Or.inl (gat 1108 (by decide +kernel) (by decide +kernel))
set_option maxRecDepth 100000 in
theorem lkX9_241 : LkM RX9 241 yX9_layUnder := Or.inl (gat 1112 (by decide +kernel) (by decide +kernel))
set_option maxRecDepth 100000 in
theorem lkL_142 : LkM RL 142 yX9_ring := Or.inl (gat 1116 (by decide +kernel) (by decide +kernel))
set_option maxRecDepth 100000 in
theorem lkL_146 : LkM RL 146 yX9_drops := Or.inl (gat 1120 (by decide +kernel) (by decide +kernel))
set_option maxRecDepth 100000 in
theorem lkX9_247 : LkM RX9 247 yX9_fewest := Or.inl (gat 1124 (by decide +kernel) (by decide +kernel))
set_option maxRecDepth 100000 in
theorem lkX9_244 : LkM RX9 244 yX9_ones := Or.inl (gat 1128 (by decide +kernel) (by decide +kernel))
set_option maxRecDepth 100000 in
theorem lkL_150 : LkM RL 150 yX9_drop := Or.inl (gat 1131 (by decide +kernel) (by decide +kernel))
set_option maxRecDepth 100000 in
theorem lkL_154 : LkM RL 154 yX9_count := Or.inl (gat 1135 (by decide +kernel) (by decide +kernel))
set_option maxRecDepth 100000 in
theorem nkL_7 : LkN RL 7 8 10 := ⟨RX8, TX8, rfl, gat 59 (by decide +kernel) (by decide +kernel), gat 60 (by decide +kernel) (by decide +kernel), gat 45 (by decide +kernel) (by decide +kernel)⟩
set_option maxRecDepth 100000 in
theorem nkX8_7 : LkN RX8 7 1 4 := ⟨RX1, TX1, rfl, gat 67 (by decide +kernel) (by decide +kernel), gat 68 (by decide +kernel) (by decide +kernel), gat 46 (by decide +kernel) (by decide +kernel)⟩
set_option maxRecDepth 100000 in
theorem gsX1_39 : Cond.fieldLinkNest RX1 39 "BoulderLand" "X_STEP" "[I" "BoulderLand" ∈ nTbl := nat_ 84 (by decide +kernel) (by decide +kernel)
set_option maxRecDepth 100000 in
theorem gsX1_42 : Cond.fieldLinkNest RX1 42 "BoulderLand" "Y_STEP" "[I" "BoulderLand" ∈ nTbl := nat_ 86 (by decide +kernel) (by decide +kernel)
set_option maxRecDepth 100000 in
theorem fkX1_9 : LkF RX1 9 1 0 := ⟨RX1, TX1, 4, rfl, by decide, Or.inl (gat 91 (by decide +kernel) (by decide +kernel))⟩
set_option maxRecDepth 100000 in
theorem fkX8_105 : LkF RX8 105 1 0 := ⟨RX1, TX1, 4, rfl, by decide, Or.inr ⟨"BoulderLand", nat_ 92 (by decide +kernel) (by decide +kernel)⟩⟩
set_option maxRecDepth 100000 in
theorem fkX7_39 : LkF RX7 39 1 0 := ⟨RX1, TX1, 4, rfl, by decide, Or.inr ⟨"BoulderLand", nat_ 93 (by decide +kernel) (by decide +kernel)⟩⟩
set_option maxRecDepth 100000 in
theorem fkX0_82 : LkF RX0 82 1 0 := ⟨RX1, TX1, 4, rfl, by decide, Or.inr ⟨"BoulderLand", nat_ 94 (by decide +kernel) (by decide +kernel)⟩⟩
set_option maxRecDepth 100000 in
theorem fkX1_15 : LkF RX1 15 1 1 := ⟨RX1, TX1, 4, rfl, by decide, Or.inl (gat 95 (by decide +kernel) (by decide +kernel))⟩
set_option maxRecDepth 100000 in
theorem fkX8_109 : LkF RX8 109 1 1 := ⟨RX1, TX1, 4, rfl, by decide, Or.inr ⟨"BoulderLand", nat_ 96 (by decide +kernel) (by decide +kernel)⟩⟩
set_option maxRecDepth 100000 in
theorem fkX4_49 : LkF RX4 49 1 1 := ⟨RX1, TX1, 4, rfl, by decide, Or.inr ⟨"BoulderLand", nat_ 97 (by decide +kernel) (by decide +kernel)⟩⟩
set_option maxRecDepth 100000 in
theorem fkX1_18 : LkF RX1 18 1 2 := ⟨RX1, TX1, 4, rfl, by decide, Or.inl (gat 98 (by decide +kernel) (by decide +kernel))⟩
set_option maxRecDepth 100000 in
theorem fkX7_45 : LkF RX7 45 1 2 := ⟨RX1, TX1, 4, rfl, by decide, Or.inr ⟨"BoulderLand", nat_ 99 (by decide +kernel) (by decide +kernel)⟩⟩
set_option maxRecDepth 100000 in
theorem fkX0_68 : LkF RX0 68 1 2 := ⟨RX1, TX1, 4, rfl, by decide, Or.inr ⟨"BoulderLand", nat_ 100 (by decide +kernel) (by decide +kernel)⟩⟩
set_option maxRecDepth 100000 in
theorem fkX1_25 : LkF RX1 25 1 3 := ⟨RX1, TX1, 4, rfl, by decide, Or.inl (gat 101 (by decide +kernel) (by decide +kernel))⟩
set_option maxRecDepth 100000 in
theorem fkX8_99 : LkF RX8 99 1 3 := ⟨RX1, TX1, 4, rfl, by decide, Or.inr ⟨"BoulderLand", nat_ 102 (by decide +kernel) (by decide +kernel)⟩⟩
set_option maxRecDepth 100000 in
theorem fkX7_23 : LkF RX7 23 1 3 := ⟨RX1, TX1, 4, rfl, by decide, Or.inr ⟨"BoulderLand", nat_ 103 (by decide +kernel) (by decide +kernel)⟩⟩
set_option maxRecDepth 100000 in
theorem fkX0_57 : LkF RX0 57 1 3 := ⟨RX1, TX1, 4, rfl, by decide, Or.inr ⟨"BoulderLand", nat_ 104 (by decide +kernel) (by decide +kernel)⟩⟩
set_option maxRecDepth 100000 in
theorem fkX4_101 : LkF RX4 101 1 3 := ⟨RX1, TX1, 4, rfl, by decide, Or.inr ⟨"BoulderLand", nat_ 105 (by decide +kernel) (by decide +kernel)⟩⟩
set_option maxRecDepth 100000 in
theorem aw_I : Cond.arrayClass .int ∈ gTbl := gat 115 (by decide +kernel) (by decide +kernel)
set_option maxRecDepth 100000 in
theorem nkX8_16 : LkN RX8 16 5 4 := ⟨RX5, TX5, rfl, gat 116 (by decide +kernel) (by decide +kernel), gat 117 (by decide +kernel) (by decide +kernel), gat 48 (by decide +kernel) (by decide +kernel)⟩
set_option maxRecDepth 100000 in
theorem fkX5_9 : LkF RX5 9 5 0 := ⟨RX5, TX5, 4, rfl, by decide, Or.inl (gat 122 (by decide +kernel) (by decide +kernel))⟩
set_option maxRecDepth 100000 in
theorem fkX8_120 : LkF RX8 120 5 0 := ⟨RX5, TX5, 4, rfl, by decide, Or.inr ⟨"BoulderLand", nat_ 123 (by decide +kernel) (by decide +kernel)⟩⟩
set_option maxRecDepth 100000 in
theorem fkX4_66 : LkF RX4 66 5 0 := ⟨RX5, TX5, 4, rfl, by decide, Or.inr ⟨"BoulderLand", nat_ 124 (by decide +kernel) (by decide +kernel)⟩⟩
set_option maxRecDepth 100000 in
theorem fkX5_15 : LkF RX5 15 5 1 := ⟨RX5, TX5, 4, rfl, by decide, Or.inl (gat 125 (by decide +kernel) (by decide +kernel))⟩
set_option maxRecDepth 100000 in
theorem fkX4_54 : LkF RX4 54 5 1 := ⟨RX5, TX5, 4, rfl, by decide, Or.inr ⟨"BoulderLand", nat_ 126 (by decide +kernel) (by decide +kernel)⟩⟩
set_option maxRecDepth 100000 in
theorem fkX5_18 : LkF RX5 18 5 2 := ⟨RX5, TX5, 4, rfl, by decide, Or.inl (gat 127 (by decide +kernel) (by decide +kernel))⟩
set_option maxRecDepth 100000 in
theorem fkX4_57 : LkF RX4 57 5 2 := ⟨RX5, TX5, 4, rfl, by decide, Or.inr ⟨"BoulderLand", nat_ 128 (by decide +kernel) (by decide +kernel)⟩⟩
set_option maxRecDepth 100000 in
theorem fkX5_21 : LkF RX5 21 5 3 := ⟨RX5, TX5, 4, rfl, by decide, Or.inl (gat 129 (by decide +kernel) (by decide +kernel))⟩
set_option maxRecDepth 100000 in
theorem fkX8_88 : LkF RX8 88 5 3 := ⟨RX5, TX5, 4, rfl, by decide, Or.inr ⟨"BoulderLand", nat_ 130 (by decide +kernel) (by decide +kernel)⟩⟩
set_option maxRecDepth 100000 in
theorem nkX8_23 : LkN RX8 23 0 11 := ⟨RX0, TX0, rfl, gat 140 (by decide +kernel) (by decide +kernel), gat 141 (by decide +kernel) (by decide +kernel), gat 49 (by decide +kernel) (by decide +kernel)⟩
set_option maxRecDepth 100000 in
theorem fkX0_37 : LkF RX0 37 0 0 := ⟨RX0, TX0, 11, rfl, by decide, Or.inl (gat 146 (by decide +kernel) (by decide +kernel))⟩
set_option maxRecDepth 100000 in
theorem fkX0_9 : LkF RX0 9 0 1 := ⟨RX0, TX0, 11, rfl, by decide, Or.inl (gat 147 (by decide +kernel) (by decide +kernel))⟩
set_option maxRecDepth 100000 in
theorem fkX4_91 : LkF RX4 91 0 1 := ⟨RX0, TX0, 11, rfl, by decide, Or.inr ⟨"BoulderLand", nat_ 148 (by decide +kernel) (by decide +kernel)⟩⟩
set_option maxRecDepth 100000 in
theorem fkX8_223 : LkF RX8 223 0 1 := ⟨RX0, TX0, 11, rfl, by decide, Or.inr ⟨"BoulderLand", nat_ 149 (by decide +kernel) (by decide +kernel)⟩⟩
set_option maxRecDepth 100000 in
theorem fkX0_15 : LkF RX0 15 0 2 := ⟨RX0, TX0, 11, rfl, by decide, Or.inl (gat 150 (by decide +kernel) (by decide +kernel))⟩
set_option maxRecDepth 100000 in
theorem fkX0_19 : LkF RX0 19 0 3 := ⟨RX0, TX0, 11, rfl, by decide, Or.inl (gat 151 (by decide +kernel) (by decide +kernel))⟩
set_option maxRecDepth 100000 in
theorem fkX0_22 : LkF RX0 22 0 4 := ⟨RX0, TX0, 11, rfl, by decide, Or.inl (gat 152 (by decide +kernel) (by decide +kernel))⟩
set_option maxRecDepth 100000 in
theorem fkX0_25 : LkF RX0 25 0 5 := ⟨RX0, TX0, 11, rfl, by decide, Or.inl (gat 153 (by decide +kernel) (by decide +kernel))⟩
set_option maxRecDepth 100000 in
theorem fkX0_28 : LkF RX0 28 0 6 := ⟨RX0, TX0, 11, rfl, by decide, Or.inl (gat 154 (by decide +kernel) (by decide +kernel))⟩
set_option maxRecDepth 100000 in
theorem fkX0_31 : LkF RX0 31 0 7 := ⟨RX0, TX0, 11, rfl, by decide, Or.inl (gat 155 (by decide +kernel) (by decide +kernel))⟩
set_option maxRecDepth 100000 in
theorem fkX0_34 : LkF RX0 34 0 8 := ⟨RX0, TX0, 11, rfl, by decide, Or.inl (gat 156 (by decide +kernel) (by decide +kernel))⟩
set_option maxRecDepth 100000 in
theorem fkX0_54 : LkF RX0 54 0 9 := ⟨RX0, TX0, 11, rfl, by decide, Or.inl (gat 157 (by decide +kernel) (by decide +kernel))⟩
set_option maxRecDepth 100000 in
theorem fkX0_41 : LkF RX0 41 0 10 := ⟨RX0, TX0, 11, rfl, by decide, Or.inl (gat 158 (by decide +kernel) (by decide +kernel))⟩
set_option maxRecDepth 100000 in
theorem fkX8_92 : LkF RX8 92 0 10 := ⟨RX0, TX0, 11, rfl, by decide, Or.inr ⟨"BoulderLand", nat_ 159 (by decide +kernel) (by decide +kernel)⟩⟩
set_option maxRecDepth 100000 in
theorem fkX6_40 : LkF RX6 40 0 10 := ⟨RX0, TX0, 11, rfl, by decide, Or.inr ⟨"BoulderLand", nat_ 160 (by decide +kernel) (by decide +kernel)⟩⟩
set_option maxRecDepth 100000 in
theorem aw_Z : Cond.arrayClass .boolean ∈ gTbl := gat 184 (by decide +kernel) (by decide +kernel)
set_option maxRecDepth 100000 in
theorem nkX8_32 : LkN RX8 32 3 2 := ⟨RX3, TX3, rfl, gat 185 (by decide +kernel) (by decide +kernel), gat 186 (by decide +kernel) (by decide +kernel), gat 50 (by decide +kernel) (by decide +kernel)⟩
set_option maxRecDepth 100000 in
theorem fkX3_9 : LkF RX3 9 3 0 := ⟨RX3, TX3, 2, rfl, by decide, Or.inl (gat 191 (by decide +kernel) (by decide +kernel))⟩
set_option maxRecDepth 100000 in
theorem fkX4_77 : LkF RX4 77 3 0 := ⟨RX3, TX3, 2, rfl, by decide, Or.inr ⟨"BoulderLand", nat_ 192 (by decide +kernel) (by decide +kernel)⟩⟩
set_option maxRecDepth 100000 in
theorem fkX0_101 : LkF RX0 101 3 0 := ⟨RX3, TX3, 2, rfl, by decide, Or.inr ⟨"BoulderLand", nat_ 193 (by decide +kernel) (by decide +kernel)⟩⟩
set_option maxRecDepth 100000 in
theorem fkX8_240 : LkF RX8 240 3 0 := ⟨RX3, TX3, 2, rfl, by decide, Or.inr ⟨"BoulderLand", nat_ 194 (by decide +kernel) (by decide +kernel)⟩⟩
set_option maxRecDepth 100000 in
theorem fkX3_15 : LkF RX3 15 3 1 := ⟨RX3, TX3, 2, rfl, by decide, Or.inl (gat 195 (by decide +kernel) (by decide +kernel))⟩
set_option maxRecDepth 100000 in
theorem fkX8_94 : LkF RX8 94 3 1 := ⟨RX3, TX3, 2, rfl, by decide, Or.inr ⟨"BoulderLand", nat_ 196 (by decide +kernel) (by decide +kernel)⟩⟩
set_option maxRecDepth 100000 in
theorem fkX4_74 : LkF RX4 74 3 1 := ⟨RX3, TX3, 2, rfl, by decide, Or.inr ⟨"BoulderLand", nat_ 197 (by decide +kernel) (by decide +kernel)⟩⟩
set_option maxRecDepth 100000 in
theorem fkX0_98 : LkF RX0 98 3 1 := ⟨RX3, TX3, 2, rfl, by decide, Or.inr ⟨"BoulderLand", nat_ 198 (by decide +kernel) (by decide +kernel)⟩⟩
set_option maxRecDepth 100000 in
theorem nkX8_45 : LkN RX8 45 4 8 := ⟨RX4, TX4, rfl, gat 204 (by decide +kernel) (by decide +kernel), gat 205 (by decide +kernel) (by decide +kernel), gat 51 (by decide +kernel) (by decide +kernel)⟩
set_option maxRecDepth 100000 in
theorem fkX4_24 : LkF RX4 24 4 0 := ⟨RX4, TX4, 8, rfl, by decide, Or.inl (gat 210 (by decide +kernel) (by decide +kernel))⟩
set_option maxRecDepth 100000 in
theorem fkX4_28 : LkF RX4 28 4 1 := ⟨RX4, TX4, 8, rfl, by decide, Or.inl (gat 211 (by decide +kernel) (by decide +kernel))⟩
set_option maxRecDepth 100000 in
theorem fkX4_32 : LkF RX4 32 4 2 := ⟨RX4, TX4, 8, rfl, by decide, Or.inl (gat 212 (by decide +kernel) (by decide +kernel))⟩
set_option maxRecDepth 100000 in
theorem fkX4_9 : LkF RX4 9 4 3 := ⟨RX4, TX4, 8, rfl, by decide, Or.inl (gat 213 (by decide +kernel) (by decide +kernel))⟩
set_option maxRecDepth 100000 in
theorem fkX4_15 : LkF RX4 15 4 4 := ⟨RX4, TX4, 8, rfl, by decide, Or.inl (gat 214 (by decide +kernel) (by decide +kernel))⟩
set_option maxRecDepth 100000 in
theorem fkX4_18 : LkF RX4 18 4 5 := ⟨RX4, TX4, 8, rfl, by decide, Or.inl (gat 215 (by decide +kernel) (by decide +kernel))⟩
set_option maxRecDepth 100000 in
theorem fkX4_21 : LkF RX4 21 4 6 := ⟨RX4, TX4, 8, rfl, by decide, Or.inl (gat 216 (by decide +kernel) (by decide +kernel))⟩
set_option maxRecDepth 100000 in
theorem fkX4_36 : LkF RX4 36 4 7 := ⟨RX4, TX4, 8, rfl, by decide, Or.inl (gat 217 (by decide +kernel) (by decide +kernel))⟩
set_option maxRecDepth 100000 in
theorem fkX8_93 : LkF RX8 93 4 7 := ⟨RX4, TX4, 8, rfl, by decide, Or.inr ⟨"BoulderLand", nat_ 218 (by decide +kernel) (by decide +kernel)⟩⟩
set_option maxRecDepth 100000 in
theorem nkX8_54 : LkN RX8 54 6 7 := ⟨RX6, TX6, rfl, gat 236 (by decide +kernel) (by decide +kernel), gat 237 (by decide +kernel) (by decide +kernel), gat 52 (by decide +kernel) (by decide +kernel)⟩
set_option maxRecDepth 100000 in
theorem nkX6_9 : LkN RX6 9 3 2 := ⟨RX3, TX3, rfl, gat 242 (by decide +kernel) (by decide +kernel), gat 186 (by decide +kernel) (by decide +kernel), gat 50 (by decide +kernel) (by decide +kernel)⟩
set_option maxRecDepth 100000 in
theorem fkX6_25 : LkF RX6 25 6 0 := ⟨RX6, TX6, 7, rfl, by decide, Or.inl (gat 244 (by decide +kernel) (by decide +kernel))⟩
set_option maxRecDepth 100000 in
theorem fkX6_29 : LkF RX6 29 6 1 := ⟨RX6, TX6, 7, rfl, by decide, Or.inl (gat 245 (by decide +kernel) (by decide +kernel))⟩
set_option maxRecDepth 100000 in
theorem fkX6_12 : LkF RX6 12 6 2 := ⟨RX6, TX6, 7, rfl, by decide, Or.inl (gat 246 (by decide +kernel) (by decide +kernel))⟩
set_option maxRecDepth 100000 in
theorem fkX6_18 : LkF RX6 18 6 3 := ⟨RX6, TX6, 7, rfl, by decide, Or.inl (gat 247 (by decide +kernel) (by decide +kernel))⟩
set_option maxRecDepth 100000 in
theorem fkX8_212 : LkF RX8 212 6 3 := ⟨RX6, TX6, 7, rfl, by decide, Or.inr ⟨"BoulderLand", nat_ 248 (by decide +kernel) (by decide +kernel)⟩⟩
set_option maxRecDepth 100000 in
theorem fkX6_37 : LkF RX6 37 6 4 := ⟨RX6, TX6, 7, rfl, by decide, Or.inl (gat 249 (by decide +kernel) (by decide +kernel))⟩
set_option maxRecDepth 100000 in
theorem fkX8_209 : LkF RX8 209 6 4 := ⟨RX6, TX6, 7, rfl, by decide, Or.inr ⟨"BoulderLand", nat_ 250 (by decide +kernel) (by decide +kernel)⟩⟩
set_option maxRecDepth 100000 in
theorem fkX6_33 : LkF RX6 33 6 5 := ⟨RX6, TX6, 7, rfl, by decide, Or.inl (gat 251 (by decide +kernel) (by decide +kernel))⟩
set_option maxRecDepth 100000 in
theorem fkX8_206 : LkF RX8 206 6 5 := ⟨RX6, TX6, 7, rfl, by decide, Or.inr ⟨"BoulderLand", nat_ 252 (by decide +kernel) (by decide +kernel)⟩⟩
set_option maxRecDepth 100000 in
theorem fkX6_21 : LkF RX6 21 6 6 := ⟨RX6, TX6, 7, rfl, by decide, Or.inl (gat 253 (by decide +kernel) (by decide +kernel))⟩
set_option maxRecDepth 100000 in
theorem fkX8_95 : LkF RX8 95 6 6 := ⟨RX6, TX6, 7, rfl, by decide, Or.inr ⟨"BoulderLand", nat_ 254 (by decide +kernel) (by decide +kernel)⟩⟩
set_option maxRecDepth 100000 in
theorem nkX8_63 : LkN RX8 63 7 3 := ⟨RX7, TX7, rfl, gat 270 (by decide +kernel) (by decide +kernel), gat 271 (by decide +kernel) (by decide +kernel), gat 53 (by decide +kernel) (by decide +kernel)⟩
set_option maxRecDepth 100000 in
theorem fkX7_15 : LkF RX7 15 7 0 := ⟨RX7, TX7, 3, rfl, by decide, Or.inl (gat 276 (by decide +kernel) (by decide +kernel))⟩
set_option maxRecDepth 100000 in
theorem fkX7_19 : LkF RX7 19 7 1 := ⟨RX7, TX7, 3, rfl, by decide, Or.inl (gat 277 (by decide +kernel) (by decide +kernel))⟩
set_option maxRecDepth 100000 in
theorem fkX7_9 : LkF RX7 9 7 2 := ⟨RX7, TX7, 3, rfl, by decide, Or.inl (gat 278 (by decide +kernel) (by decide +kernel))⟩
set_option maxRecDepth 100000 in
theorem fkX8_233 : LkF RX8 233 7 2 := ⟨RX7, TX7, 3, rfl, by decide, Or.inr ⟨"BoulderLand", nat_ 279 (by decide +kernel) (by decide +kernel)⟩⟩
set_option maxRecDepth 100000 in
theorem nkX8_72 : LkN RX8 72 2 5 := ⟨RX2, TX2, rfl, gat 287 (by decide +kernel) (by decide +kernel), gat 288 (by decide +kernel) (by decide +kernel), gat 54 (by decide +kernel) (by decide +kernel)⟩
set_option maxRecDepth 100000 in
theorem fkX2_9 : LkF RX2 9 2 0 := ⟨RX2, TX2, 5, rfl, by decide, Or.inl (gat 293 (by decide +kernel) (by decide +kernel))⟩
set_option maxRecDepth 100000 in
theorem fkX2_15 : LkF RX2 15 2 1 := ⟨RX2, TX2, 5, rfl, by decide, Or.inl (gat 294 (by decide +kernel) (by decide +kernel))⟩
set_option maxRecDepth 100000 in
theorem fkX2_22 : LkF RX2 22 2 2 := ⟨RX2, TX2, 5, rfl, by decide, Or.inl (gat 295 (by decide +kernel) (by decide +kernel))⟩
set_option maxRecDepth 100000 in
theorem fkX8_266 : LkF RX8 266 2 2 := ⟨RX2, TX2, 5, rfl, by decide, Or.inr ⟨"BoulderLand", nat_ 296 (by decide +kernel) (by decide +kernel)⟩⟩
set_option maxRecDepth 100000 in
theorem fkX2_43 : LkF RX2 43 2 3 := ⟨RX2, TX2, 5, rfl, by decide, Or.inl (gat 297 (by decide +kernel) (by decide +kernel))⟩
set_option maxRecDepth 100000 in
theorem fkX2_30 : LkF RX2 30 2 4 := ⟨RX2, TX2, 5, rfl, by decide, Or.inl (gat 298 (by decide +kernel) (by decide +kernel))⟩
set_option maxRecDepth 100000 in
theorem fkX8_10 : LkF RX8 10 8 0 := ⟨RX8, TX8, 10, rfl, by decide, Or.inl (gat 310 (by decide +kernel) (by decide +kernel))⟩
set_option maxRecDepth 100000 in
theorem fkX8_19 : LkF RX8 19 8 1 := ⟨RX8, TX8, 10, rfl, by decide, Or.inl (gat 311 (by decide +kernel) (by decide +kernel))⟩
set_option maxRecDepth 100000 in
theorem fkX8_28 : LkF RX8 28 8 2 := ⟨RX8, TX8, 10, rfl, by decide, Or.inl (gat 312 (by decide +kernel) (by decide +kernel))⟩
set_option maxRecDepth 100000 in
theorem fkX8_35 : LkF RX8 35 8 3 := ⟨RX8, TX8, 10, rfl, by decide, Or.inl (gat 313 (by decide +kernel) (by decide +kernel))⟩
set_option maxRecDepth 100000 in
theorem fkX8_39 : LkF RX8 39 8 4 := ⟨RX8, TX8, 10, rfl, by decide, Or.inl (gat 314 (by decide +kernel) (by decide +kernel))⟩
set_option maxRecDepth 100000 in
theorem fkX8_42 : LkF RX8 42 8 5 := ⟨RX8, TX8, 10, rfl, by decide, Or.inl (gat 315 (by decide +kernel) (by decide +kernel))⟩
set_option maxRecDepth 100000 in
theorem fkX8_50 : LkF RX8 50 8 6 := ⟨RX8, TX8, 10, rfl, by decide, Or.inl (gat 316 (by decide +kernel) (by decide +kernel))⟩
set_option maxRecDepth 100000 in
theorem fkX8_59 : LkF RX8 59 8 7 := ⟨RX8, TX8, 10, rfl, by decide, Or.inl (gat 317 (by decide +kernel) (by decide +kernel))⟩
set_option maxRecDepth 100000 in
theorem fkX8_68 : LkF RX8 68 8 8 := ⟨RX8, TX8, 10, rfl, by decide, Or.inl (gat 318 (by decide +kernel) (by decide +kernel))⟩
set_option maxRecDepth 100000 in
theorem fkX8_75 : LkF RX8 75 8 9 := ⟨RX8, TX8, 10, rfl, by decide, Or.inl (gat 319 (by decide +kernel) (by decide +kernel))⟩
set_option maxRecDepth 100000 in
theorem kcX8_83 : Cond.constant RX8 83 (-900002) ∈ gTbl := gat 346 (by decide +kernel) (by decide +kernel)
set_option maxRecDepth 100000 in
theorem kcX8_104 : Cond.constant RX8 104 (-900001) ∈ gTbl := gat 356 (by decide +kernel) (by decide +kernel)
set_option maxRecDepth 100000 in
theorem kcX5_29 : Cond.constant RX5 29 (-900004) ∈ gTbl := gat 401 (by decide +kernel) (by decide +kernel)
set_option maxRecDepth 100000 in
theorem kcX0_49 : Cond.constant RX0 49 (-900004) ∈ gTbl := gat 419 (by decide +kernel) (by decide +kernel)
set_option maxRecDepth 100000 in
theorem kcX8_150 : Cond.constant RX8 150 (-900009) ∈ gTbl := gat 455 (by decide +kernel) (by decide +kernel)
set_option maxRecDepth 100000 in
theorem kcX8_171 : Cond.constant RX8 171 (-900003) ∈ gTbl := gat 492 (by decide +kernel) (by decide +kernel)
set_option maxRecDepth 100000 in
theorem kcX3_23 : Cond.constant RX3 23 (-900009) ∈ gTbl := gat 510 (by decide +kernel) (by decide +kernel)
set_option maxRecDepth 100000 in
theorem kcX4_44 : Cond.constant RX4 44 (-900004) ∈ gTbl := gat 544 (by decide +kernel) (by decide +kernel)
set_option maxRecDepth 100000 in
theorem w_nat : Cond.native arraycopyName ∈ gTbl := gat 623 (by decide +kernel) (by decide +kernel)
set_option maxRecDepth 100000 in
theorem kcJ6_265 : Cond.constant RJ6 265 (1431655765) ∈ gTbl := gat 730 (by decide +kernel) (by decide +kernel)
set_option maxRecDepth 100000 in
theorem kcJ6_266 : Cond.constant RJ6 266 (858993459) ∈ gTbl := gat 731 (by decide +kernel) (by decide +kernel)
set_option maxRecDepth 100000 in
theorem kcJ6_267 : Cond.constant RJ6 267 (252645135) ∈ gTbl := gat 732 (by decide +kernel) (by decide +kernel)
set_option maxRecDepth 100000 in
theorem nkL_10 : LkN RL 10 9 33 := ⟨RX9, TX9, rfl, gat 747 (by decide +kernel) (by decide +kernel), gat 748 (by decide +kernel) (by decide +kernel), gat 55 (by decide +kernel) (by decide +kernel)⟩
set_option maxRecDepth 100000 in
theorem fkX9_87 : LkF RX9 87 9 0 := ⟨RX9, TX9, 33, rfl, by decide, Or.inl (gat 757 (by decide +kernel) (by decide +kernel))⟩
set_option maxRecDepth 100000 in
theorem fkX9_91 : LkF RX9 91 9 1 := ⟨RX9, TX9, 33, rfl, by decide, Or.inl (gat 758 (by decide +kernel) (by decide +kernel))⟩
set_option maxRecDepth 100000 in
theorem fkX9_7 : LkF RX9 7 9 2 := ⟨RX9, TX9, 33, rfl, by decide, Or.inl (gat 759 (by decide +kernel) (by decide +kernel))⟩
set_option maxRecDepth 100000 in
theorem fkX9_13 : LkF RX9 13 9 3 := ⟨RX9, TX9, 33, rfl, by decide, Or.inl (gat 760 (by decide +kernel) (by decide +kernel))⟩
set_option maxRecDepth 100000 in
theorem fkX9_94 : LkF RX9 94 9 4 := ⟨RX9, TX9, 33, rfl, by decide, Or.inl (gat 761 (by decide +kernel) (by decide +kernel))⟩
set_option maxRecDepth 100000 in
theorem fkX9_16 : LkF RX9 16 9 5 := ⟨RX9, TX9, 33, rfl, by decide, Or.inl (gat 762 (by decide +kernel) (by decide +kernel))⟩
set_option maxRecDepth 100000 in
theorem fkX9_19 : LkF RX9 19 9 6 := ⟨RX9, TX9, 33, rfl, by decide, Or.inl (gat 763 (by decide +kernel) (by decide +kernel))⟩
set_option maxRecDepth 100000 in
theorem fkX9_22 : LkF RX9 22 9 7 := ⟨RX9, TX9, 33, rfl, by decide, Or.inl (gat 764 (by decide +kernel) (by decide +kernel))⟩
set_option maxRecDepth 100000 in
theorem fkX9_97 : LkF RX9 97 9 8 := ⟨RX9, TX9, 33, rfl, by decide, Or.inl (gat 765 (by decide +kernel) (by decide +kernel))⟩
set_option maxRecDepth 100000 in
theorem fkX9_25 : LkF RX9 25 9 9 := ⟨RX9, TX9, 33, rfl, by decide, Or.inl (gat 766 (by decide +kernel) (by decide +kernel))⟩
set_option maxRecDepth 100000 in
theorem fkX9_29 : LkF RX9 29 9 10 := ⟨RX9, TX9, 33, rfl, by decide, Or.inl (gat 767 (by decide +kernel) (by decide +kernel))⟩
set_option maxRecDepth 100000 in
theorem fkX9_32 : LkF RX9 32 9 11 := ⟨RX9, TX9, 33, rfl, by decide, Or.inl (gat 768 (by decide +kernel) (by decide +kernel))⟩
set_option maxRecDepth 100000 in
theorem fkX9_35 : LkF RX9 35 9 12 := ⟨RX9, TX9, 33, rfl, by decide, Or.inl (gat 769 (by decide +kernel) (by decide +kernel))⟩
set_option maxRecDepth 100000 in
theorem fkX9_38 : LkF RX9 38 9 13 := ⟨RX9, TX9, 33, rfl, by decide, Or.inl (gat 770 (by decide +kernel) (by decide +kernel))⟩
set_option maxRecDepth 100000 in
theorem fkX9_41 : LkF RX9 41 9 14 := ⟨RX9, TX9, 33, rfl, by decide, Or.inl (gat 771 (by decide +kernel) (by decide +kernel))⟩
set_option maxRecDepth 100000 in
theorem fkX9_44 : LkF RX9 44 9 15 := ⟨RX9, TX9, 33, rfl, by decide, Or.inl (gat 772 (by decide +kernel) (by decide +kernel))⟩
set_option maxRecDepth 100000 in
theorem fkX9_47 : LkF RX9 47 9 16 := ⟨RX9, TX9, 33, rfl, by decide, Or.inl (gat 773 (by decide +kernel) (by decide +kernel))⟩
set_option maxRecDepth 100000 in
theorem fkX9_50 : LkF RX9 50 9 17 := ⟨RX9, TX9, 33, rfl, by decide, Or.inl (gat 774 (by decide +kernel) (by decide +kernel))⟩
set_option maxRecDepth 100000 in
theorem fkX9_177 : LkF RX9 177 9 18 := ⟨RX9, TX9, 33, rfl, by decide, Or.inl (gat 775 (by decide +kernel) (by decide +kernel))⟩
set_option maxRecDepth 100000 in
theorem fkX9_53 : LkF RX9 53 9 19 := ⟨RX9, TX9, 33, rfl, by decide, Or.inl (gat 776 (by decide +kernel) (by decide +kernel))⟩
set_option maxRecDepth 100000 in
theorem fkX9_100 : LkF RX9 100 9 20 := ⟨RX9, TX9, 33, rfl, by decide, Or.inl (gat 777 (by decide +kernel) (by decide +kernel))⟩
set_option maxRecDepth 100000 in
theorem fkX9_56 : LkF RX9 56 9 21 := ⟨RX9, TX9, 33, rfl, by decide, Or.inl (gat 778 (by decide +kernel) (by decide +kernel))⟩
set_option maxRecDepth 100000 in
theorem fkX9_59 : LkF RX9 59 9 22 := ⟨RX9, TX9, 33, rfl, by decide, Or.inl (gat 779 (by decide +kernel) (by decide +kernel))⟩
set_option maxRecDepth 100000 in
theorem fkX9_62 : LkF RX9 62 9 23 := ⟨RX9, TX9, 33, rfl, by decide, Or.inl (gat 780 (by decide +kernel) (by decide +kernel))⟩
set_option maxRecDepth 100000 in
theorem fkX9_65 : LkF RX9 65 9 24 := ⟨RX9, TX9, 33, rfl, by decide, Or.inl (gat 781 (by decide +kernel) (by decide +kernel))⟩
set_option maxRecDepth 100000 in
theorem fkX9_216 : LkF RX9 216 9 25 := ⟨RX9, TX9, 33, rfl, by decide, Or.inl (gat 782 (by decide +kernel) (by decide +kernel))⟩
set_option maxRecDepth 100000 in
theorem fkX9_220 : LkF RX9 220 9 26 := ⟨RX9, TX9, 33, rfl, by decide, Or.inl (gat 783 (by decide +kernel) (by decide +kernel))⟩
set_option maxRecDepth 100000 in
theorem fkX9_226 : LkF RX9 226 9 27 := ⟨RX9, TX9, 33, rfl, by decide, Or.inl (gat 784 (by decide +kernel) (by decide +kernel))⟩
set_option maxRecDepth 100000 in
theorem fkX9_68 : LkF RX9 68 9 28 := ⟨RX9, TX9, 33, rfl, by decide, Or.inl (gat 785 (by decide +kernel) (by decide +kernel))⟩
set_option maxRecDepth 100000 in
theorem fkX9_71 : LkF RX9 71 9 29 := ⟨RX9, TX9, 33, rfl, by decide, Or.inl (gat 786 (by decide +kernel) (by decide +kernel))⟩
set_option maxRecDepth 100000 in
theorem fkX9_74 : LkF RX9 74 9 30 := ⟨RX9, TX9, 33, rfl, by decide, Or.inl (gat 787 (by decide +kernel) (by decide +kernel))⟩
set_option maxRecDepth 100000 in
theorem fkX9_77 : LkF RX9 77 9 31 := ⟨RX9, TX9, 33, rfl, by decide, Or.inl (gat 788 (by decide +kernel) (by decide +kernel))⟩
set_option maxRecDepth 100000 in
theorem fkX9_80 : LkF RX9 80 9 32 := ⟨RX9, TX9, 33, rfl, by decide, Or.inl (gat 789 (by decide +kernel) (by decide +kernel))⟩
set_option maxRecDepth 100000 in
theorem klX9_113 : Cond.constantLong RX9 113 (2) ∈ gTbl := gat 861 (by decide +kernel) (by decide +kernel)
set_option maxRecDepth 100000 in
theorem klX9_115 : Cond.constantLong RX9 115 (6) ∈ gTbl := gat 862 (by decide +kernel) (by decide +kernel)
set_option maxRecDepth 100000 in
theorem kcX9_117 : Cond.constant RX9 117 (-900002) ∈ gTbl := gat 866 (by decide +kernel) (by decide +kernel)
set_option maxRecDepth 100000 in
theorem kcX9_122 : Cond.constant RX9 122 (-900001) ∈ gTbl := gat 879 (by decide +kernel) (by decide +kernel)
set_option maxRecDepth 100000 in
theorem klX9_123 : Cond.constantLong RX9 123 (99) ∈ gTbl := gat 880 (by decide +kernel) (by decide +kernel)
set_option maxRecDepth 100000 in
theorem klX9_125 : Cond.constantLong RX9 125 (5) ∈ gTbl := gat 881 (by decide +kernel) (by decide +kernel)
set_option maxRecDepth 100000 in
theorem klX9_111 : Cond.constantLong RX9 111 (9) ∈ gTbl := gat 889 (by decide +kernel) (by decide +kernel)
set_option maxRecDepth 100000 in
theorem kcX9_130 : Cond.constant RX9 130 (-900004) ∈ gTbl := gat 890 (by decide +kernel) (by decide +kernel)
set_option maxRecDepth 100000 in
theorem klX9_135 : Cond.constantLong RX9 135 (199) ∈ gTbl := gat 903 (by decide +kernel) (by decide +kernel)
set_option maxRecDepth 100000 in
theorem klX9_137 : Cond.constantLong RX9 137 (20) ∈ gTbl := gat 904 (by decide +kernel) (by decide +kernel)
set_option maxRecDepth 100000 in
theorem kcX9_134 : Cond.constant RX9 134 (-900009) ∈ gTbl := gat 921 (by decide +kernel) (by decide +kernel)
set_option maxRecDepth 100000 in
theorem kcX9_176 : Cond.constant RX9 176 (-900003) ∈ gTbl := gat 969 (by decide +kernel) (by decide +kernel)
set_option maxRecDepth 100000 in
theorem klX9_193 : Cond.constantLong RX9 193 (3) ∈ gTbl := gat 1010 (by decide +kernel) (by decide +kernel)
set_option maxRecDepth 100000 in
theorem klX9_195 : Cond.constantLong RX9 195 (15) ∈ gTbl := gat 1011 (by decide +kernel) (by decide +kernel)
set_option maxRecDepth 100000 in
theorem kcX9_219 : Cond.constant RX9 219 (100000000) ∈ gTbl := gat 1056 (by decide +kernel) (by decide +kernel)
set_option maxRecDepth 100000 in
theorem w_acs : Cond.static arraycopyName ∈ gTbl := gat 622 (by decide +kernel) (by decide +kernel)
set_option maxRecDepth 100000 in
theorem w_sys : Cond.initialized "java/lang/System" ∈ gTbl := gat 56 (by decide +kernel) (by decide +kernel)
set_option maxRecDepth 100000 in
theorem w_oi : Cond.instanceMethod Lib.objectInit ∈ gTbl := gat 65 (by decide +kernel) (by decide +kernel)
set_option maxRecDepth 100000 in
theorem w_oc : Cond.code Lib.objectInit ⟨#[0xb1]⟩ 1 none ∈ gTbl := gat 66 (by decide +kernel) (by decide +kernel)
set_option maxRecDepth 100000 in
theorem w_maxs : Cond.static Lib.Math.max.name ∈ gTbl := gat 664 (by decide +kernel) (by decide +kernel)
set_option maxRecDepth 100000 in
theorem w_maxc : Cond.code Lib.Math.max.name Lib.Math.max.code 2 (some .int) ∈ gTbl := gat 665 (by decide +kernel) (by decide +kernel)
set_option maxRecDepth 100000 in
theorem x_mmax {E : vE} {l : Launch} {mi : vMI} {pc : Nat} {lv st : List Value} {S : vS} {M : vM} {kc ks : Nat} {Q : Option Value → vS → vM → Prop} {i : Nat} {x y : Int32} (w1 : Cond.methodLink (iy mi).cls i Lib.Math.max.name ∈ gTbl) (g1 : 1 ≤ (iR mi).frames) (g2 : (st.map fun v => v.category).sum + 13 ≤ (iR mi).locals) (hd : decode (ib mi) pc = .ok (.invokestatic i, 3)) (kk : PM E l mi (pc + 3) lv (.int (if x < y then y else x) :: st) S M kc ks Q) : PM E l mi pc lv (.int y :: .int x :: st) S M kc ks Q := by
  intro p e s m args below meth c H locs ls Z F O hlo hL h1 h2 hR
  have hts := F.2.2.2.2.1
  exact va_mmax F.1 F.2.1 (F.2.2.1.trans hL.1.symm) F.2.2.2.1 (hts _ w1) (hts _ w_maxs) (hts _ (gat 57 (by decide +kernel) (by decide +kernel))) (hts _ w_maxc) g1 (by rw [cv_cats]; exact g2) h1 h2 hd (kk p e s m args below meth c H locs ls Z F O hlo hL h1 h2 hR)
set_option maxRecDepth 100000 in
theorem mkX7_48 : Cond.methodLink RX7 48 Lib.Math.max.name ∈ gTbl := gat 663 (by decide +kernel) (by decide +kernel)
set_option maxRecDepth 100000 in
theorem w_mins : Cond.static Lib.Math.min.name ∈ gTbl := gat 667 (by decide +kernel) (by decide +kernel)
set_option maxRecDepth 100000 in
theorem w_minc : Cond.code Lib.Math.min.name Lib.Math.min.code 2 (some .int) ∈ gTbl := gat 668 (by decide +kernel) (by decide +kernel)
set_option maxRecDepth 100000 in
theorem x_mmin {E : vE} {l : Launch} {mi : vMI} {pc : Nat} {lv st : List Value} {S : vS} {M : vM} {kc ks : Nat} {Q : Option Value → vS → vM → Prop} {i : Nat} {x y : Int32} (w1 : Cond.methodLink (iy mi).cls i Lib.Math.min.name ∈ gTbl) (g1 : 1 ≤ (iR mi).frames) (g2 : (st.map fun v => v.category).sum + 13 ≤ (iR mi).locals) (hd : decode (ib mi) pc = .ok (.invokestatic i, 3)) (kk : PM E l mi (pc + 3) lv (.int (if y < x then y else x) :: st) S M kc ks Q) : PM E l mi pc lv (.int y :: .int x :: st) S M kc ks Q := by
  intro p e s m args below meth c H locs ls Z F O hlo hL h1 h2 hR
  have hts := F.2.2.2.2.1
  exact va_mmin F.1 F.2.1 (F.2.2.1.trans hL.1.symm) F.2.2.2.1 (hts _ w1) (hts _ w_mins) (hts _ (gat 57 (by decide +kernel) (by decide +kernel))) (hts _ w_minc) g1 (by rw [cv_cats]; exact g2) h1 h2 hd (kk p e s m args below meth c H locs ls Z F O hlo hL h1 h2 hR)
set_option maxRecDepth 100000 in
theorem mkX7_54 : Cond.methodLink RX7 54 Lib.Math.min.name ∈ gTbl := gat 666 (by decide +kernel) (by decide +kernel)
