abbrev vwCl : List vw_C := [(RX0, TX0, 16), (RX1, TX1, 10), (RX2, TX2, 3), (RX3, TX3, 2), (RX4, TX4, 3), (RX5, TX5, 14), (RX6, TX6, 13)]
