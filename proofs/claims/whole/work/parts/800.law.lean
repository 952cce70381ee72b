theorem dL_law__0 : decode cL_law_ 0 = .ok (.new 8, 3) := by decide +kernel
theorem dL_law__3 : decode cL_law_ 3 = .ok (.dup, 1) := by decide +kernel
theorem dL_law__4 : decode cL_law_ 4 = .ok (.invokespecial 109, 3) := by decide +kernel
theorem dL_law__7 : decode cL_law_ 7 = .ok (.astore_n 1, 1) := by decide +kernel
theorem dL_law__8 : decode cL_law_ 8 = .ok (.new 110, 3) := by decide +kernel
theorem dL_law__11 : decode cL_law_ 11 = .ok (.dup, 1) := by decide +kernel
theorem dL_law__12 : decode cL_law_ 12 = .ok (.invokespecial 112, 3) := by decide +kernel
theorem dL_law__15 : decode cL_law_ 15 = .ok (.astore_n 2, 1) := by decide +kernel
theorem dL_law__16 : decode cL_law_ 16 = .ok (.iconst 1, 1) := by decide +kernel
theorem dL_law__17 : decode cL_law_ 17 = .ok (.newarray .long, 2) := by decide +kernel
theorem dL_law__19 : decode cL_law_ 19 = .ok (.astore_n 3, 1) := by decide +kernel
theorem dL_law__20 : decode cL_law_ 20 = .ok (.iconst 0, 1) := by decide +kernel
theorem dL_law__21 : decode cL_law_ 21 = .ok (.istore 4, 2) := by decide +kernel
theorem dL_law__23 : decode cL_law_ 23 = .ok (.iload 4, 2) := by decide +kernel
theorem dL_law__25 : decode cL_law_ 25 = .ok (.aload_n 0, 1) := by decide +kernel
theorem dL_law__26 : decode cL_law_ 26 = .ok (.arraylength, 1) := by decide +kernel
theorem dL_law__27 : decode cL_law_ 27 = .ok (.bipush 7, 2) := by decide +kernel
theorem dL_law__29 : decode cL_law_ 29 = .ok (.isub, 1) := by decide +kernel
theorem dL_law__30 : decode cL_law_ 30 = .ok (.if_icmp .gt 2615, 3) := by decide +kernel
theorem dL_law__33 : decode cL_law_ 33 = .ok (.aload_n 0, 1) := by decide +kernel
theorem dL_law__34 : decode cL_law_ 34 = .ok (.iload 4, 2) := by decide +kernel
theorem dL_law__36 : decode cL_law_ 36 = .ok (.iaload, 1) := by decide +kernel
theorem dL_law__37 : decode cL_law_ 37 = .ok (.bipush 63, 2) := by decide +kernel
theorem dL_law__39 : decode cL_law_ 39 = .ok (.iand, 1) := by decide +kernel
theorem dL_law__40 : decode cL_law_ 40 = .ok (.tableswitch 2599 0 32 #[148, 221, 277, 290, 346, 414, 498, 578, 658, 726, 834, 933, 1013, 1105, 1225, 1345, 1425, 1517, 1635, 1715, 1790, 1858, 1926, 2046, 2102, 2182, 2238, 2318, 2374, 2430, 2548, 2561, 2574], 148) := by decide +kernel
theorem dL_law__188 : decode cL_law_ 188 = .ok (.aload_n 1, 1) := by decide +kernel
theorem dL_law__189 : decode cL_law_ 189 = .ok (.aload_n 0, 1) := by decide +kernel
theorem dL_law__190 : decode cL_law_ 190 = .ok (.iload 4, 2) := by decide +kernel
theorem dL_law__192 : decode cL_law_ 192 = .ok (.iconst 1, 1) := by decide +kernel
theorem dL_law__193 : decode cL_law_ 193 = .ok (.iadd, 1) := by decide +kernel
theorem dL_law__194 : decode cL_law_ 194 = .ok (.iaload, 1) := by decide +kernel
theorem dL_law__195 : decode cL_law_ 195 = .ok (.aload_n 0, 1) := by decide +kernel
theorem dL_law__196 : decode cL_law_ 196 = .ok (.iload 4, 2) := by decide +kernel
theorem dL_law__198 : decode cL_law_ 198 = .ok (.iconst 2, 1) := by decide +kernel
theorem dL_law__199 : decode cL_law_ 199 = .ok (.iadd, 1) := by decide +kernel
theorem dL_law__200 : decode cL_law_ 200 = .ok (.iaload, 1) := by decide +kernel
theorem dL_law__201 : decode cL_law_ 201 = .ok (.aload_n 0, 1) := by decide +kernel
theorem dL_law__202 : decode cL_law_ 202 = .ok (.iload 4, 2) := by decide +kernel
theorem dL_law__204 : decode cL_law_ 204 = .ok (.iconst 3, 1) := by decide +kernel
theorem dL_law__205 : decode cL_law_ 205 = .ok (.iadd, 1) := by decide +kernel
theorem dL_law__206 : decode cL_law_ 206 = .ok (.iaload, 1) := by decide +kernel
theorem dL_law__207 : decode cL_law_ 207 = .ok (.aload_n 0, 1) := by decide +kernel
theorem dL_law__208 : decode cL_law_ 208 = .ok (.iload 4, 2) := by decide +kernel
theorem dL_law__210 : decode cL_law_ 210 = .ok (.iconst 4, 1) := by decide +kernel
theorem dL_law__211 : decode cL_law_ 211 = .ok (.iadd, 1) := by decide +kernel
theorem dL_law__212 : decode cL_law_ 212 = .ok (.iaload, 1) := by decide +kernel
theorem dL_law__213 : decode cL_law_ 213 = .ok (.aload_n 0, 1) := by decide +kernel
theorem dL_law__214 : decode cL_law_ 214 = .ok (.iload 4, 2) := by decide +kernel
theorem dL_law__216 : decode cL_law_ 216 = .ok (.iconst 5, 1) := by decide +kernel
theorem dL_law__217 : decode cL_law_ 217 = .ok (.iadd, 1) := by decide +kernel
theorem dL_law__218 : decode cL_law_ 218 = .ok (.iaload, 1) := by decide +kernel
theorem dL_law__219 : decode cL_law_ 219 = .ok (.invokevirtual 113, 3) := by decide +kernel
theorem dL_law__222 : decode cL_law_ 222 = .ok (.aload_n 2, 1) := by decide +kernel
theorem dL_law__223 : decode cL_law_ 223 = .ok (.aload_n 0, 1) := by decide +kernel
theorem dL_law__224 : decode cL_law_ 224 = .ok (.iload 4, 2) := by decide +kernel
theorem dL_law__226 : decode cL_law_ 226 = .ok (.iconst 1, 1) := by decide +kernel
theorem dL_law__227 : decode cL_law_ 227 = .ok (.iadd, 1) := by decide +kernel
theorem dL_law__228 : decode cL_law_ 228 = .ok (.iaload, 1) := by decide +kernel
theorem dL_law__229 : decode cL_law_ 229 = .ok (.aload_n 0, 1) := by decide +kernel
theorem dL_law__230 : decode cL_law_ 230 = .ok (.iload 4, 2) := by decide +kernel
theorem dL_law__232 : decode cL_law_ 232 = .ok (.iconst 2, 1) := by decide +kernel
theorem dL_law__233 : decode cL_law_ 233 = .ok (.iadd, 1) := by decide +kernel
theorem dL_law__234 : decode cL_law_ 234 = .ok (.iaload, 1) := by decide +kernel
theorem dL_law__235 : decode cL_law_ 235 = .ok (.aload_n 0, 1) := by decide +kernel
theorem dL_law__236 : decode cL_law_ 236 = .ok (.iload 4, 2) := by decide +kernel
theorem dL_law__238 : decode cL_law_ 238 = .ok (.iconst 3, 1) := by decide +kernel
theorem dL_law__239 : decode cL_law_ 239 = .ok (.iadd, 1) := by decide +kernel
theorem dL_law__240 : decode cL_law_ 240 = .ok (.iaload, 1) := by decide +kernel
theorem dL_law__241 : decode cL_law_ 241 = .ok (.aload_n 0, 1) := by decide +kernel
theorem dL_law__242 : decode cL_law_ 242 = .ok (.iload 4, 2) := by decide +kernel
theorem dL_law__244 : decode cL_law_ 244 = .ok (.iconst 4, 1) := by decide +kernel
theorem dL_law__245 : decode cL_law_ 245 = .ok (.iadd, 1) := by decide +kernel
theorem dL_law__246 : decode cL_law_ 246 = .ok (.iaload, 1) := by decide +kernel
theorem dL_law__247 : decode cL_law_ 247 = .ok (.aload_n 0, 1) := by decide +kernel
theorem dL_law__248 : decode cL_law_ 248 = .ok (.iload 4, 2) := by decide +kernel
theorem dL_law__250 : decode cL_law_ 250 = .ok (.iconst 5, 1) := by decide +kernel
theorem dL_law__251 : decode cL_law_ 251 = .ok (.iadd, 1) := by decide +kernel
theorem dL_law__252 : decode cL_law_ 252 = .ok (.iaload, 1) := by decide +kernel
theorem dL_law__253 : decode cL_law_ 253 = .ok (.invokevirtual 117, 3) := by decide +kernel
theorem dL_law__256 : decode cL_law_ 256 = .ok (.if_icmp .eq 2383, 3) := by decide +kernel
theorem dL_law__259 : decode cL_law_ 259 = .ok (.iconst 0, 1) := by decide +kernel
theorem dL_law__260 : decode cL_law_ 260 = .ok (.ireturn, 1) := by decide +kernel
theorem dL_law__261 : decode cL_law_ 261 = .ok (.aload_n 1, 1) := by decide +kernel
theorem dL_law__262 : decode cL_law_ 262 = .ok (.aload_n 0, 1) := by decide +kernel
theorem dL_law__263 : decode cL_law_ 263 = .ok (.iload 4, 2) := by decide +kernel
theorem dL_law__265 : decode cL_law_ 265 = .ok (.iconst 1, 1) := by decide +kernel
theorem dL_law__266 : decode cL_law_ 266 = .ok (.iadd, 1) := by decide +kernel
theorem dL_law__267 : decode cL_law_ 267 = .ok (.iaload, 1) := by decide +kernel
theorem dL_law__268 : decode cL_law_ 268 = .ok (.aload_n 3, 1) := by decide +kernel
theorem dL_law__269 : decode cL_law_ 269 = .ok (.invokestatic 118, 3) := by decide +kernel
theorem dL_law__272 : decode cL_law_ 272 = .ok (.istore 5, 2) := by decide +kernel
theorem dL_law__274 : decode cL_law_ 274 = .ok (.aload_n 2, 1) := by decide +kernel
theorem dL_law__275 : decode cL_law_ 275 = .ok (.aload_n 0, 1) := by decide +kernel
theorem dL_law__276 : decode cL_law_ 276 = .ok (.iload 4, 2) := by decide +kernel
theorem dL_law__278 : decode cL_law_ 278 = .ok (.iconst 1, 1) := by decide +kernel
theorem dL_law__279 : decode cL_law_ 279 = .ok (.iadd, 1) := by decide +kernel
theorem dL_law__280 : decode cL_law_ 280 = .ok (.iaload, 1) := by decide +kernel
theorem dL_law__281 : decode cL_law_ 281 = .ok (.invokevirtual 123, 3) := by decide +kernel
theorem dL_law__284 : decode cL_law_ 284 = .ok (.istore 6, 2) := by decide +kernel
theorem dL_law__286 : decode cL_law_ 286 = .ok (.aload_n 2, 1) := by decide +kernel
theorem dL_law__287 : decode cL_law_ 287 = .ok (.invokevirtual 124, 3) := by decide +kernel
theorem dL_law__290 : decode cL_law_ 290 = .ok (.iload 5, 2) := by decide +kernel
theorem dL_law__292 : decode cL_law_ 292 = .ok (.if_icmp .eq 5, 3) := by decide +kernel
theorem dL_law__295 : decode cL_law_ 295 = .ok (.iconst 0, 1) := by decide +kernel
theorem dL_law__296 : decode cL_law_ 296 = .ok (.ireturn, 1) := by decide +kernel
theorem dL_law__297 : decode cL_law_ 297 = .ok (.iload 5, 2) := by decide +kernel
theorem dL_law__299 : decode cL_law_ 299 = .ok (.ifCond .ne 15, 3) := by decide +kernel
theorem dL_law__302 : decode cL_law_ 302 = .ok (.aload_n 3, 1) := by decide +kernel
theorem dL_law__303 : decode cL_law_ 303 = .ok (.iconst 0, 1) := by decide +kernel
theorem dL_law__304 : decode cL_law_ 304 = .ok (.laload, 1) := by decide +kernel
theorem dL_law__305 : decode cL_law_ 305 = .ok (.iload 6, 2) := by decide +kernel
theorem dL_law__307 : decode cL_law_ 307 = .ok (.i2l, 1) := by decide +kernel
theorem dL_law__308 : decode cL_law_ 308 = .ok (.lcmp, 1) := by decide +kernel
theorem dL_law__309 : decode cL_law_ 309 = .ok (.ifCond .eq 5, 3) := by decide +kernel
theorem dL_law__312 : decode cL_law_ 312 = .ok (.iconst 0, 1) := by decide +kernel
theorem dL_law__313 : decode cL_law_ 313 = .ok (.ireturn, 1) := by decide +kernel
theorem dL_law__314 : decode cL_law_ 314 = .ok (.goto 2325, 3) := by decide +kernel
theorem dL_law__317 : decode cL_law_ 317 = .ok (.aload_n 1, 1) := by decide +kernel
theorem dL_law__318 : decode cL_law_ 318 = .ok (.invokevirtual 128, 3) := by decide +kernel
theorem dL_law__321 : decode cL_law_ 321 = .ok (.aload_n 2, 1) := by decide +kernel
theorem dL_law__322 : decode cL_law_ 322 = .ok (.invokevirtual 131, 3) := by decide +kernel
theorem dL_law__325 : decode cL_law_ 325 = .ok (.if_icmp .eq 2314, 3) := by decide +kernel
theorem dL_law__328 : decode cL_law_ 328 = .ok (.iconst 0, 1) := by decide +kernel
theorem dL_law__329 : decode cL_law_ 329 = .ok (.ireturn, 1) := by decide +kernel
theorem dL_law__330 : decode cL_law_ 330 = .ok (.aload_n 1, 1) := by decide +kernel
theorem dL_law__331 : decode cL_law_ 331 = .ok (.aload_n 0, 1) := by decide +kernel
theorem dL_law__332 : decode cL_law_ 332 = .ok (.iload 4, 2) := by decide +kernel
theorem dL_law__334 : decode cL_law_ 334 = .ok (.iconst 1, 1) := by decide +kernel
theorem dL_law__335 : decode cL_law_ 335 = .ok (.iadd, 1) := by decide +kernel
theorem dL_law__336 : decode cL_law_ 336 = .ok (.iaload, 1) := by decide +kernel
theorem dL_law__337 : decode cL_law_ 337 = .ok (.aload_n 3, 1) := by decide +kernel
theorem dL_law__338 : decode cL_law_ 338 = .ok (.invokestatic 132, 3) := by decide +kernel
theorem dL_law__341 : decode cL_law_ 341 = .ok (.istore 5, 2) := by decide +kernel
theorem dL_law__343 : decode cL_law_ 343 = .ok (.aload_n 2, 1) := by decide +kernel
theorem dL_law__344 : decode cL_law_ 344 = .ok (.aload_n 0, 1) := by decide +kernel
theorem dL_law__345 : decode cL_law_ 345 = .ok (.iload 4, 2) := by decide +kernel
theorem dL_law__347 : decode cL_law_ 347 = .ok (.iconst 1, 1) := by decide +kernel
theorem dL_law__348 : decode cL_law_ 348 = .ok (.iadd, 1) := by decide +kernel
theorem dL_law__349 : decode cL_law_ 349 = .ok (.iaload, 1) := by decide +kernel
theorem dL_law__350 : decode cL_law_ 350 = .ok (.invokevirtual 134, 3) := by decide +kernel
theorem dL_law__353 : decode cL_law_ 353 = .ok (.istore 6, 2) := by decide +kernel
theorem dL_law__355 : decode cL_law_ 355 = .ok (.aload_n 2, 1) := by decide +kernel
theorem dL_law__356 : decode cL_law_ 356 = .ok (.invokevirtual 124, 3) := by decide +kernel
theorem dL_law__359 : decode cL_law_ 359 = .ok (.iload 5, 2) := by decide +kernel
theorem dL_law__361 : decode cL_law_ 361 = .ok (.if_icmp .eq 5, 3) := by decide +kernel
theorem dL_law__364 : decode cL_law_ 364 = .ok (.iconst 0, 1) := by decide +kernel
theorem dL_law__365 : decode cL_law_ 365 = .ok (.ireturn, 1) := by decide +kernel
theorem dL_law__366 : decode cL_law_ 366 = .ok (.iload 5, 2) := by decide +kernel
theorem dL_law__368 : decode cL_law_ 368 = .ok (.ifCond .ne 15, 3) := by decide +kernel
theorem dL_law__371 : decode cL_law_ 371 = .ok (.aload_n 3, 1) := by decide +kernel
theorem dL_law__372 : decode cL_law_ 372 = .ok (.iconst 0, 1) := by decide +kernel
theorem dL_law__373 : decode cL_law_ 373 = .ok (.laload, 1) := by decide +kernel
theorem dL_law__374 : decode cL_law_ 374 = .ok (.iload 6, 2) := by decide +kernel
theorem dL_law__376 : decode cL_law_ 376 = .ok (.i2l, 1) := by decide +kernel
theorem dL_law__377 : decode cL_law_ 377 = .ok (.lcmp, 1) := by decide +kernel
theorem dL_law__378 : decode cL_law_ 378 = .ok (.ifCond .eq 5, 3) := by decide +kernel
theorem dL_law__381 : decode cL_law_ 381 = .ok (.iconst 0, 1) := by decide +kernel
theorem dL_law__382 : decode cL_law_ 382 = .ok (.ireturn, 1) := by decide +kernel
theorem dL_law__383 : decode cL_law_ 383 = .ok (.goto 2256, 3) := by decide +kernel
theorem dL_law__386 : decode cL_law_ 386 = .ok (.aload_n 1, 1) := by decide +kernel
theorem dL_law__387 : decode cL_law_ 387 = .ok (.aload_n 0, 1) := by decide +kernel
theorem dL_law__388 : decode cL_law_ 388 = .ok (.iload 4, 2) := by decide +kernel
theorem dL_law__390 : decode cL_law_ 390 = .ok (.iconst 1, 1) := by decide +kernel
theorem dL_law__391 : decode cL_law_ 391 = .ok (.iadd, 1) := by decide +kernel
theorem dL_law__392 : decode cL_law_ 392 = .ok (.iaload, 1) := by decide +kernel
theorem dL_law__393 : decode cL_law_ 393 = .ok (.aload_n 0, 1) := by decide +kernel
theorem dL_law__394 : decode cL_law_ 394 = .ok (.iload 4, 2) := by decide +kernel
theorem dL_law__396 : decode cL_law_ 396 = .ok (.iconst 2, 1) := by decide +kernel
theorem dL_law__397 : decode cL_law_ 397 = .ok (.iadd, 1) := by decide +kernel
theorem dL_law__398 : decode cL_law_ 398 = .ok (.iaload, 1) := by decide +kernel
theorem dL_law__399 : decode cL_law_ 399 = .ok (.aload_n 3, 1) := by decide +kernel
theorem dL_law__400 : decode cL_law_ 400 = .ok (.invokestatic 135, 3) := by decide +kernel
theorem dL_law__403 : decode cL_law_ 403 = .ok (.istore 5, 2) := by decide +kernel
theorem dL_law__405 : decode cL_law_ 405 = .ok (.aload_n 2, 1) := by decide +kernel
theorem dL_law__406 : decode cL_law_ 406 = .ok (.aload_n 0, 1) := by decide +kernel
theorem dL_law__407 : decode cL_law_ 407 = .ok (.iload 4, 2) := by decide +kernel
theorem dL_law__409 : decode cL_law_ 409 = .ok (.iconst 1, 1) := by decide +kernel
theorem dL_law__410 : decode cL_law_ 410 = .ok (.iadd, 1) := by decide +kernel
theorem dL_law__411 : decode cL_law_ 411 = .ok (.iaload, 1) := by decide +kernel
theorem dL_law__412 : decode cL_law_ 412 = .ok (.aload_n 0, 1) := by decide +kernel
theorem dL_law__413 : decode cL_law_ 413 = .ok (.iload 4, 2) := by decide +kernel
theorem dL_law__415 : decode cL_law_ 415 = .ok (.iconst 2, 1) := by decide +kernel
theorem dL_law__416 : decode cL_law_ 416 = .ok (.iadd, 1) := by decide +kernel
theorem dL_law__417 : decode cL_law_ 417 = .ok (.iaload, 1) := by decide +kernel
theorem dL_law__418 : decode cL_law_ 418 = .ok (.invokevirtual 138, 3) := by decide +kernel
theorem dL_law__421 : decode cL_law_ 421 = .ok (.istore 6, 2) := by decide +kernel
theorem dL_law__423 : decode cL_law_ 423 = .ok (.aload_n 2, 1) := by decide +kernel
theorem dL_law__424 : decode cL_law_ 424 = .ok (.invokevirtual 124, 3) := by decide +kernel
theorem dL_law__427 : decode cL_law_ 427 = .ok (.iload 5, 2) := by decide +kernel
theorem dL_law__429 : decode cL_law_ 429 = .ok (.if_icmp .eq 5, 3) := by decide +kernel
theorem dL_law__432 : decode cL_law_ 432 = .ok (.iconst 0, 1) := by decide +kernel
theorem dL_law__433 : decode cL_law_ 433 = .ok (.ireturn, 1) := by decide +kernel
theorem dL_law__434 : decode cL_law_ 434 = .ok (.iload 5, 2) := by decide +kernel
theorem dL_law__436 : decode cL_law_ 436 = .ok (.ifCond .ne 15, 3) := by decide +kernel
theorem dL_law__439 : decode cL_law_ 439 = .ok (.aload_n 3, 1) := by decide +kernel
theorem dL_law__440 : decode cL_law_ 440 = .ok (.iconst 0, 1) := by decide +kernel
theorem dL_law__441 : decode cL_law_ 441 = .ok (.laload, 1) := by decide +kernel
theorem dL_law__442 : decode cL_law_ 442 = .ok (.iload 6, 2) := by decide +kernel
theorem dL_law__444 : decode cL_law_ 444 = .ok (.i2l, 1) := by decide +kernel
theorem dL_law__445 : decode cL_law_ 445 = .ok (.lcmp, 1) := by decide +kernel
theorem dL_law__446 : decode cL_law_ 446 = .ok (.ifCond .eq 5, 3) := by decide +kernel
theorem dL_law__449 : decode cL_law_ 449 = .ok (.iconst 0, 1) := by decide +kernel
theorem dL_law__450 : decode cL_law_ 450 = .ok (.ireturn, 1) := by decide +kernel
theorem dL_law__451 : decode cL_law_ 451 = .ok (.goto 2188, 3) := by decide +kernel
theorem dL_law__454 : decode cL_law_ 454 = .ok (.aload_n 1, 1) := by decide +kernel
theorem dL_law__455 : decode cL_law_ 455 = .ok (.aload_n 0, 1) := by decide +kernel
theorem dL_law__456 : decode cL_law_ 456 = .ok (.iload 4, 2) := by decide +kernel
theorem dL_law__458 : decode cL_law_ 458 = .ok (.iconst 1, 1) := by decide +kernel
theorem dL_law__459 : decode cL_law_ 459 = .ok (.iadd, 1) := by decide +kernel
theorem dL_law__460 : decode cL_law_ 460 = .ok (.iaload, 1) := by decide +kernel
theorem dL_law__461 : decode cL_law_ 461 = .ok (.aload_n 0, 1) := by decide +kernel
theorem dL_law__462 : decode cL_law_ 462 = .ok (.iload 4, 2) := by decide +kernel
theorem dL_law__464 : decode cL_law_ 464 = .ok (.iconst 2, 1) := by decide +kernel
theorem dL_law__465 : decode cL_law_ 465 = .ok (.iadd, 1) := by decide +kernel
theorem dL_law__466 : decode cL_law_ 466 = .ok (.iaload, 1) := by decide +kernel
theorem dL_law__467 : decode cL_law_ 467 = .ok (.ifCond .eq 7, 3) := by decide +kernel
theorem dL_law__470 : decode cL_law_ 470 = .ok (.iconst 1, 1) := by decide +kernel
theorem dL_law__471 : decode cL_law_ 471 = .ok (.goto 4, 3) := by decide +kernel
theorem dL_law__474 : decode cL_law_ 474 = .ok (.iconst 0, 1) := by decide +kernel
theorem dL_law__475 : decode cL_law_ 475 = .ok (.aload_n 3, 1) := by decide +kernel
theorem dL_law__476 : decode cL_law_ 476 = .ok (.invokestatic 139, 3) := by decide +kernel
theorem dL_law__479 : decode cL_law_ 479 = .ok (.istore 5, 2) := by decide +kernel
theorem dL_law__481 : decode cL_law_ 481 = .ok (.aload_n 2, 1) := by decide +kernel
theorem dL_law__482 : decode cL_law_ 482 = .ok (.aload_n 0, 1) := by decide +kernel
theorem dL_law__483 : decode cL_law_ 483 = .ok (.iload 4, 2) := by decide +kernel
theorem dL_law__485 : decode cL_law_ 485 = .ok (.iconst 1, 1) := by decide +kernel
theorem dL_law__486 : decode cL_law_ 486 = .ok (.iadd, 1) := by decide +kernel
theorem dL_law__487 : decode cL_law_ 487 = .ok (.iaload, 1) := by decide +kernel
theorem dL_law__488 : decode cL_law_ 488 = .ok (.aload_n 0, 1) := by decide +kernel
theorem dL_law__489 : decode cL_law_ 489 = .ok (.iload 4, 2) := by decide +kernel
theorem dL_law__491 : decode cL_law_ 491 = .ok (.iconst 2, 1) := by decide +kernel
theorem dL_law__492 : decode cL_law_ 492 = .ok (.iadd, 1) := by decide +kernel
theorem dL_law__493 : decode cL_law_ 493 = .ok (.iaload, 1) := by decide +kernel
theorem dL_law__494 : decode cL_law_ 494 = .ok (.ifCond .eq 7, 3) := by decide +kernel
theorem dL_law__497 : decode cL_law_ 497 = .ok (.iconst 1, 1) := by decide +kernel
theorem dL_law__498 : decode cL_law_ 498 = .ok (.goto 4, 3) := by decide +kernel
theorem dL_law__501 : decode cL_law_ 501 = .ok (.iconst 0, 1) := by decide +kernel
theorem dL_law__502 : decode cL_law_ 502 = .ok (.invokevirtual 142, 3) := by decide +kernel
theorem dL_law__505 : decode cL_law_ 505 = .ok (.istore 6, 2) := by decide +kernel
theorem dL_law__507 : decode cL_law_ 507 = .ok (.aload_n 2, 1) := by decide +kernel
theorem dL_law__508 : decode cL_law_ 508 = .ok (.invokevirtual 124, 3) := by decide +kernel
theorem dL_law__511 : decode cL_law_ 511 = .ok (.iload 5, 2) := by decide +kernel
theorem dL_law__513 : decode cL_law_ 513 = .ok (.if_icmp .eq 5, 3) := by decide +kernel
theorem dL_law__516 : decode cL_law_ 516 = .ok (.iconst 0, 1) := by decide +kernel
theorem dL_law__517 : decode cL_law_ 517 = .ok (.ireturn, 1) := by decide +kernel
theorem dL_law__518 : decode cL_law_ 518 = .ok (.iload 5, 2) := by decide +kernel
theorem dL_law__520 : decode cL_law_ 520 = .ok (.ifCond .ne 15, 3) := by decide +kernel
theorem dL_law__523 : decode cL_law_ 523 = .ok (.aload_n 3, 1) := by decide +kernel
theorem dL_law__524 : decode cL_law_ 524 = .ok (.iconst 0, 1) := by decide +kernel
theorem dL_law__525 : decode cL_law_ 525 = .ok (.laload, 1) := by decide +kernel
theorem dL_law__526 : decode cL_law_ 526 = .ok (.iload 6, 2) := by decide +kernel
theorem dL_law__528 : decode cL_law_ 528 = .ok (.i2l, 1) := by decide +kernel
theorem dL_law__529 : decode cL_law_ 529 = .ok (.lcmp, 1) := by decide +kernel
theorem dL_law__530 : decode cL_law_ 530 = .ok (.ifCond .eq 5, 3) := by decide +kernel
theorem dL_law__533 : decode cL_law_ 533 = .ok (.iconst 0, 1) := by decide +kernel
theorem dL_law__534 : decode cL_law_ 534 = .ok (.ireturn, 1) := by decide +kernel
theorem dL_law__535 : decode cL_law_ 535 = .ok (.goto 2104, 3) := by decide +kernel
theorem dL_law__538 : decode cL_law_ 538 = .ok (.aload_n 1, 1) := by decide +kernel
theorem dL_law__539 : decode cL_law_ 539 = .ok (.aload_n 0, 1) := by decide +kernel
theorem dL_law__540 : decode cL_law_ 540 = .ok (.iload 4, 2) := by decide +kernel
theorem dL_law__542 : decode cL_law_ 542 = .ok (.iconst 1, 1) := by decide +kernel
theorem dL_law__543 : decode cL_law_ 543 = .ok (.iadd, 1) := by decide +kernel
theorem dL_law__544 : decode cL_law_ 544 = .ok (.iaload, 1) := by decide +kernel
theorem dL_law__545 : decode cL_law_ 545 = .ok (.aload_n 0, 1) := by decide +kernel
theorem dL_law__546 : decode cL_law_ 546 = .ok (.iload 4, 2) := by decide +kernel
theorem dL_law__548 : decode cL_law_ 548 = .ok (.iconst 2, 1) := by decide +kernel
theorem dL_law__549 : decode cL_law_ 549 = .ok (.iadd, 1) := by decide +kernel
theorem dL_law__550 : decode cL_law_ 550 = .ok (.iaload, 1) := by decide +kernel
theorem dL_law__551 : decode cL_law_ 551 = .ok (.aload_n 0, 1) := by decide +kernel
theorem dL_law__552 : decode cL_law_ 552 = .ok (.iload 4, 2) := by decide +kernel
theorem dL_law__554 : decode cL_law_ 554 = .ok (.iconst 3, 1) := by decide +kernel
theorem dL_law__555 : decode cL_law_ 555 = .ok (.iadd, 1) := by decide +kernel
theorem dL_law__556 : decode cL_law_ 556 = .ok (.iaload, 1) := by decide +kernel
theorem dL_law__557 : decode cL_law_ 557 = .ok (.aload_n 3, 1) := by decide +kernel
theorem dL_law__558 : decode cL_law_ 558 = .ok (.invokestatic 143, 3) := by decide +kernel
theorem dL_law__561 : decode cL_law_ 561 = .ok (.istore 5, 2) := by decide +kernel
theorem dL_law__563 : decode cL_law_ 563 = .ok (.aload_n 2, 1) := by decide +kernel
theorem dL_law__564 : decode cL_law_ 564 = .ok (.aload_n 0, 1) := by decide +kernel
theorem dL_law__565 : decode cL_law_ 565 = .ok (.iload 4, 2) := by decide +kernel
theorem dL_law__567 : decode cL_law_ 567 = .ok (.iconst 1, 1) := by decide +kernel
theorem dL_law__568 : decode cL_law_ 568 = .ok (.iadd, 1) := by decide +kernel
theorem dL_law__569 : decode cL_law_ 569 = .ok (.iaload, 1) := by decide +kernel
theorem dL_law__570 : decode cL_law_ 570 = .ok (.aload_n 0, 1) := by decide +kernel
theorem dL_law__571 : decode cL_law_ 571 = .ok (.iload 4, 2) := by decide +kernel
theorem dL_law__573 : decode cL_law_ 573 = .ok (.iconst 2, 1) := by decide +kernel
theorem dL_law__574 : decode cL_law_ 574 = .ok (.iadd, 1) := by decide +kernel
theorem dL_law__575 : decode cL_law_ 575 = .ok (.iaload, 1) := by decide +kernel
theorem dL_law__576 : decode cL_law_ 576 = .ok (.aload_n 0, 1) := by decide +kernel
theorem dL_law__577 : decode cL_law_ 577 = .ok (.iload 4, 2) := by decide +kernel
theorem dL_law__579 : decode cL_law_ 579 = .ok (.iconst 3, 1) := by decide +kernel
theorem dL_law__580 : decode cL_law_ 580 = .ok (.iadd, 1) := by decide +kernel
theorem dL_law__581 : decode cL_law_ 581 = .ok (.iaload, 1) := by decide +kernel
theorem dL_law__582 : decode cL_law_ 582 = .ok (.invokevirtual 146, 3) := by decide +kernel
theorem dL_law__585 : decode cL_law_ 585 = .ok (.istore 6, 2) := by decide +kernel
theorem dL_law__587 : decode cL_law_ 587 = .ok (.aload_n 2, 1) := by decide +kernel
theorem dL_law__588 : decode cL_law_ 588 = .ok (.invokevirtual 124, 3) := by decide +kernel
theorem dL_law__591 : decode cL_law_ 591 = .ok (.iload 5, 2) := by decide +kernel
theorem dL_law__593 : decode cL_law_ 593 = .ok (.if_icmp .eq 5, 3) := by decide +kernel
theorem dL_law__596 : decode cL_law_ 596 = .ok (.iconst 0, 1) := by decide +kernel
theorem dL_law__597 : decode cL_law_ 597 = .ok (.ireturn, 1) := by decide +kernel
